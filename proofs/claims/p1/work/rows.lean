section
-- ===== PART A: goes FIRST, ahead of the names: the tables' words, and 'selects' of the private methods out of them =====
/-- a private method of a class that the tables say can be made, by its rows of tables_1 -/
def lw_okq (q : MethodName × Nat) : Prop := (q.1.cls ≠ "java/lang/invoke/MethodHandle" ∧ q.1.cls ≠ "java/lang/invoke/VarHandle") ∧ Cond.instantiable q.1.cls q.2 ∈ tables_1 ∧ Cond.privateMethod q.1 ∈ tables_1 ∧ Cond.instanceMethod q.1 ∈ tables_1
theorem lw_p0 : lw_okq (⟨"java/lang/Throwable", "fillInStackTrace", "(I)Ljava/lang/Throwable;"⟩, 6) := ⟨⟨by decide +kernel, by decide +kernel⟩, List.mem_of_getElem? (i := 392) (by decide +kernel), List.mem_of_getElem? (i := 390) (by decide +kernel), List.mem_of_getElem? (i := 391) (by decide +kernel)⟩
theorem lw_p1 : lw_okq (⟨"CentrifugeUnit$Control", "readSensors", "(LCentrifugeUnit$Model;)V"⟩, 14) := ⟨⟨by decide +kernel, by decide +kernel⟩, List.mem_of_getElem? (i := 163) (by decide +kernel), List.mem_of_getElem? (i := 586) (by decide +kernel), List.mem_of_getElem? (i := 587) (by decide +kernel)⟩
theorem lw_p2 : lw_okq (⟨"CentrifugeUnit$Control", "turning", "()Z"⟩, 14) := ⟨⟨by decide +kernel, by decide +kernel⟩, List.mem_of_getElem? (i := 163) (by decide +kernel), List.mem_of_getElem? (i := 621) (by decide +kernel), List.mem_of_getElem? (i := 622) (by decide +kernel)⟩
theorem lw_p3 : lw_okq (⟨"CentrifugeUnit$Control", "lookForFault", "()V"⟩, 14) := ⟨⟨by decide +kernel, by decide +kernel⟩, List.mem_of_getElem? (i := 163) (by decide +kernel), List.mem_of_getElem? (i := 636) (by decide +kernel), List.mem_of_getElem? (i := 637) (by decide +kernel)⟩
theorem lw_p4 : lw_okq (⟨"CentrifugeUnit$Control", "faultReason", "()I"⟩, 14) := ⟨⟨by decide +kernel, by decide +kernel⟩, List.mem_of_getElem? (i := 163) (by decide +kernel), List.mem_of_getElem? (i := 640) (by decide +kernel), List.mem_of_getElem? (i := 641) (by decide +kernel)⟩
theorem lw_p5 : lw_okq (⟨"CentrifugeUnit$Control", "addDose", "()V"⟩, 14) := ⟨⟨by decide +kernel, by decide +kernel⟩, List.mem_of_getElem? (i := 163) (by decide +kernel), List.mem_of_getElem? (i := 657) (by decide +kernel), List.mem_of_getElem? (i := 658) (by decide +kernel)⟩
theorem lw_p6 : lw_okq (⟨"CentrifugeUnit$Control", "followProgram", "()V"⟩, 14) := ⟨⟨by decide +kernel, by decide +kernel⟩, List.mem_of_getElem? (i := 163) (by decide +kernel), List.mem_of_getElem? (i := 662) (by decide +kernel), List.mem_of_getElem? (i := 663) (by decide +kernel)⟩
theorem lw_p7 : lw_okq (⟨"CentrifugeUnit$Control", "segmentIsThrough", "(I)Z"⟩, 14) := ⟨⟨by decide +kernel, by decide +kernel⟩, List.mem_of_getElem? (i := 163) (by decide +kernel), List.mem_of_getElem? (i := 670) (by decide +kernel), List.mem_of_getElem? (i := 671) (by decide +kernel)⟩
theorem lw_p8 : lw_okq (⟨"CentrifugeUnit$Control", "ramp", "(II)Z"⟩, 14) := ⟨⟨by decide +kernel, by decide +kernel⟩, List.mem_of_getElem? (i := 163) (by decide +kernel), List.mem_of_getElem? (i := 674) (by decide +kernel), List.mem_of_getElem? (i := 675) (by decide +kernel)⟩
theorem lw_p9 : lw_okq (⟨"CentrifugeUnit$Control", "keepToGoal", "()V"⟩, 14) := ⟨⟨by decide +kernel, by decide +kernel⟩, List.mem_of_getElem? (i := 163) (by decide +kernel), List.mem_of_getElem? (i := 684) (by decide +kernel), List.mem_of_getElem? (i := 685) (by decide +kernel)⟩
theorem lw_p10 : lw_okq (⟨"CentrifugeUnit$Control", "slowDown", "(II)Z"⟩, 14) := ⟨⟨by decide +kernel, by decide +kernel⟩, List.mem_of_getElem? (i := 163) (by decide +kernel), List.mem_of_getElem? (i := 692) (by decide +kernel), List.mem_of_getElem? (i := 693) (by decide +kernel)⟩
theorem lw_p11 : lw_okq (⟨"CentrifugeUnit$Control", "comeToRest", "()V"⟩, 14) := ⟨⟨by decide +kernel, by decide +kernel⟩, List.mem_of_getElem? (i := 163) (by decide +kernel), List.mem_of_getElem? (i := 702) (by decide +kernel), List.mem_of_getElem? (i := 703) (by decide +kernel)⟩
theorem lw_p12 : lw_okq (⟨"CentrifugeUnitModel", "throwing", "(ZZ)Z"⟩, 45) := ⟨⟨by decide +kernel, by decide +kernel⟩, List.mem_of_getElem? (i := 774) (by decide +kernel), List.mem_of_getElem? (i := 935) (by decide +kernel), List.mem_of_getElem? (i := 936) (by decide +kernel)⟩
theorem lw_p13 : lw_okq (⟨"CentrifugeUnitModel", "isLocked", "()Z"⟩, 45) := ⟨⟨by decide +kernel, by decide +kernel⟩, List.mem_of_getElem? (i := 774) (by decide +kernel), List.mem_of_getElem? (i := 961) (by decide +kernel), List.mem_of_getElem? (i := 962) (by decide +kernel)⟩
theorem lw_p14 : lw_okq (⟨"CentrifugeUnitModel", "atRest", "()Z"⟩, 45) := ⟨⟨by decide +kernel, by decide +kernel⟩, List.mem_of_getElem? (i := 774) (by decide +kernel), List.mem_of_getElem? (i := 973) (by decide +kernel), List.mem_of_getElem? (i := 974) (by decide +kernel)⟩
theorem lw_p15 : lw_okq (⟨"CentrifugeUnitModel", "control", "()V"⟩, 45) := ⟨⟨by decide +kernel, by decide +kernel⟩, List.mem_of_getElem? (i := 774) (by decide +kernel), List.mem_of_getElem? (i := 1004) (by decide +kernel), List.mem_of_getElem? (i := 1005) (by decide +kernel)⟩
def lw_privs_1 : List (MethodName × Nat) := [(⟨"java/lang/Throwable", "fillInStackTrace", "(I)Ljava/lang/Throwable;"⟩, 6), (⟨"CentrifugeUnit$Control", "readSensors", "(LCentrifugeUnit$Model;)V"⟩, 14), (⟨"CentrifugeUnit$Control", "turning", "()Z"⟩, 14), (⟨"CentrifugeUnit$Control", "lookForFault", "()V"⟩, 14), (⟨"CentrifugeUnit$Control", "faultReason", "()I"⟩, 14), (⟨"CentrifugeUnit$Control", "addDose", "()V"⟩, 14), (⟨"CentrifugeUnit$Control", "followProgram", "()V"⟩, 14), (⟨"CentrifugeUnit$Control", "segmentIsThrough", "(I)Z"⟩, 14), (⟨"CentrifugeUnit$Control", "ramp", "(II)Z"⟩, 14), (⟨"CentrifugeUnit$Control", "keepToGoal", "()V"⟩, 14), (⟨"CentrifugeUnit$Control", "slowDown", "(II)Z"⟩, 14), (⟨"CentrifugeUnit$Control", "comeToRest", "()V"⟩, 14), (⟨"CentrifugeUnitModel", "throwing", "(ZZ)Z"⟩, 45), (⟨"CentrifugeUnitModel", "isLocked", "()Z"⟩, 45), (⟨"CentrifugeUnitModel", "atRest", "()Z"⟩, 45), (⟨"CentrifugeUnitModel", "control", "()V"⟩, 45)]
theorem lw_r1 : ∀ q ∈ lw_privs_1, lw_okq q := List.forall_mem_cons.mpr ⟨lw_p0, List.forall_mem_cons.mpr ⟨lw_p1, List.forall_mem_cons.mpr ⟨lw_p2, List.forall_mem_cons.mpr ⟨lw_p3, List.forall_mem_cons.mpr ⟨lw_p4, List.forall_mem_cons.mpr ⟨lw_p5, List.forall_mem_cons.mpr ⟨lw_p6, List.forall_mem_cons.mpr ⟨lw_p7, List.forall_mem_cons.mpr ⟨lw_p8, List.forall_mem_cons.mpr ⟨lw_p9, List.forall_mem_cons.mpr ⟨lw_p10, List.forall_mem_cons.mpr ⟨lw_p11, List.forall_mem_cons.mpr ⟨lw_p12, List.forall_mem_cons.mpr ⟨lw_p13, List.forall_mem_cons.mpr ⟨lw_p14, List.forall_mem_cons.mpr ⟨lw_p15, fun _ h => absurd h List.not_mem_nil⟩⟩⟩⟩⟩⟩⟩⟩⟩⟩⟩⟩⟩⟩⟩⟩
theorem lw_p16 : lw_okq (⟨"CentrifugeUnitModel", "sense", "()V"⟩, 45) := ⟨⟨by decide +kernel, by decide +kernel⟩, List.mem_of_getElem? (i := 774) (by decide +kernel), List.mem_of_getElem? (i := 1008) (by decide +kernel), List.mem_of_getElem? (i := 1009) (by decide +kernel)⟩
theorem lw_p17 : lw_okq (⟨"CentrifugeUnitModel", "read", "(I)V"⟩, 45) := ⟨⟨by decide +kernel, by decide +kernel⟩, List.mem_of_getElem? (i := 774) (by decide +kernel), List.mem_of_getElem? (i := 1018) (by decide +kernel), List.mem_of_getElem? (i := 1019) (by decide +kernel)⟩
theorem lw_p18 : lw_okq (⟨"CentrifugeUnitModel", "watch", "()V"⟩, 45) := ⟨⟨by decide +kernel, by decide +kernel⟩, List.mem_of_getElem? (i := 774) (by decide +kernel), List.mem_of_getElem? (i := 1022) (by decide +kernel), List.mem_of_getElem? (i := 1023) (by decide +kernel)⟩
theorem lw_p19 : lw_okq (⟨"CentrifugeUnitModel", "work", "()Z"⟩, 45) := ⟨⟨by decide +kernel, by decide +kernel⟩, List.mem_of_getElem? (i := 774) (by decide +kernel), List.mem_of_getElem? (i := 1027) (by decide +kernel), List.mem_of_getElem? (i := 1028) (by decide +kernel)⟩
theorem lw_p20 : lw_okq (⟨"CentrifugeUnitModel", "steer", "()V"⟩, 45) := ⟨⟨by decide +kernel, by decide +kernel⟩, List.mem_of_getElem? (i := 774) (by decide +kernel), List.mem_of_getElem? (i := 1031) (by decide +kernel), List.mem_of_getElem? (i := 1032) (by decide +kernel)⟩
theorem lw_p21 : lw_okq (⟨"CentrifugeUnitModel", "finish", "()V"⟩, 45) := ⟨⟨by decide +kernel, by decide +kernel⟩, List.mem_of_getElem? (i := 774) (by decide +kernel), List.mem_of_getElem? (i := 1038) (by decide +kernel), List.mem_of_getElem? (i := 1039) (by decide +kernel)⟩
theorem lw_p22 : lw_okq (⟨"CentrifugeUnitModel", "move", "()V"⟩, 45) := ⟨⟨by decide +kernel, by decide +kernel⟩, List.mem_of_getElem? (i := 774) (by decide +kernel), List.mem_of_getElem? (i := 1042) (by decide +kernel), List.mem_of_getElem? (i := 1043) (by decide +kernel)⟩
def lw_privs_2 : List (MethodName × Nat) := [(⟨"CentrifugeUnitModel", "sense", "()V"⟩, 45), (⟨"CentrifugeUnitModel", "read", "(I)V"⟩, 45), (⟨"CentrifugeUnitModel", "watch", "()V"⟩, 45), (⟨"CentrifugeUnitModel", "work", "()Z"⟩, 45), (⟨"CentrifugeUnitModel", "steer", "()V"⟩, 45), (⟨"CentrifugeUnitModel", "finish", "()V"⟩, 45), (⟨"CentrifugeUnitModel", "move", "()V"⟩, 45)]
theorem lw_r2 : ∀ q ∈ lw_privs_2, lw_okq q := List.forall_mem_cons.mpr ⟨lw_p16, List.forall_mem_cons.mpr ⟨lw_p17, List.forall_mem_cons.mpr ⟨lw_p18, List.forall_mem_cons.mpr ⟨lw_p19, List.forall_mem_cons.mpr ⟨lw_p20, List.forall_mem_cons.mpr ⟨lw_p21, List.forall_mem_cons.mpr ⟨lw_p22, fun _ h => absurd h List.not_mem_nil⟩⟩⟩⟩⟩⟩⟩
def lw_privs : List (MethodName × Nat) := lw_privs_1 ++ (lw_privs_2)
def lw_tbl : List Cond := k2_sels lw_privs ++ tables_1
theorem lw_privs_ok : ∀ q ∈ lw_privs, lw_okq q := by
  show ∀ q ∈ lw_privs_1 ++ (lw_privs_2), lw_okq q
  exact List.forall_mem_append.mpr ⟨lw_r1, lw_r2⟩
/-! my own: the words that a call keeps (xw), and those that want a law of their own (xq) -/
def xw : List Cond := lw_tbl.filter goodWord
theorem xw_of {w : Cond} (h : w ∈ lw_tbl) (g : goodWord w = true) : w ∈ xw := List.mem_filter.mpr ⟨h, g⟩
theorem xw_good {w : Cond} (h : w ∈ xw) : (w.onTables && w.keeps) = true ∨ ∃ ty, w = .arrayClass ty := good_of_word (List.mem_filter.mp h).2
theorem xw_call (c0 : Cond) {c1 : Cond} (h : c1 ∈ xw) : GoodIn (c0 :: xw) (c1 :: xw) := fun w hw => by
  rcases List.mem_cons.mp hw with rfl | hw
  · exact ⟨List.mem_cons_of_mem _ h, xw_good h⟩
  · exact ⟨List.mem_cons_of_mem _ hw, xw_good hw⟩
theorem xw_app (c0 : Cond) {a b : List Cond} (ha : ∀ w ∈ a, w ∈ xw) (hb : GoodIn (c0 :: xw) b) : GoodIn (c0 :: xw) (a ++ b) := fun w hw => by
  rcases List.mem_append.mp hw with hw | hw
  · exact ⟨List.mem_cons_of_mem _ (ha w hw), xw_good (ha w hw)⟩
  · exact hb w hw
def xIAE : String := "java/lang/IllegalArgumentException"
def xISE : String := "java/lang/IllegalStateException"
def xIOB : String := "java/lang/IndexOutOfBoundsException"
/-- words on the tables that are no 'good' ones: links to private members of the nest -/
def xn_nest : List (String × Nat × MethodName × String) := [("CentrifugeUnit", 18, ⟨"CentrifugeUnit$Program", "<init>", "()V"⟩, "CentrifugeUnit"), ("CentrifugeUnit", 25, ⟨"CentrifugeUnit$Model", "<init>", "()V"⟩, "CentrifugeUnit"), ("CentrifugeUnit", 32, ⟨"CentrifugeUnit$Sensors", "<init>", "()V"⟩, "CentrifugeUnit"), ("CentrifugeUnit", 39, ⟨"CentrifugeUnit$Lid", "<init>", "()V"⟩, "CentrifugeUnit"), ("CentrifugeUnit", 46, ⟨"CentrifugeUnit$Records", "<init>", "()V"⟩, "CentrifugeUnit"), ("CentrifugeUnit$Control", 11, ⟨"CentrifugeUnit$Watch", "<init>", "()V"⟩, "CentrifugeUnit"), ("CentrifugeUnit$Control", 20, ⟨"CentrifugeUnit$Run", "<init>", "()V"⟩, "CentrifugeUnit"), ("CentrifugeUnit$Rotors", 34, ⟨"CentrifugeUnit", "within", "(III)Z"⟩, "CentrifugeUnit"), ("CentrifugeUnit$Program", 19, ⟨"CentrifugeUnit", "within", "(III)Z"⟩, "CentrifugeUnit")]
def xn_str : List (String × Nat × String) := [("CentrifugeUnit", 70, "no such rotor, or its pattern is taken"), ("CentrifugeUnit", 81, "a rotor is told when idle, with power"), ("CentrifugeUnit", 91, "no such rotor"), ("CentrifugeUnit", 100, "no such segment"), ("CentrifugeUnit", 106, "not idle, no power, or the program is full"), ("CentrifugeUnit", 118, "not idle, no power, no program, or not locked"), ("CentrifugeUnit", 123, "not running, or no power"), ("CentrifugeUnit", 138, "not idle, no power, or not at rest"), ("CentrifugeUnit", 154, "no such level"), ("CentrifugeUnit", 159, "no such temperature"), ("CentrifugeUnit", 165, "no such sensor or number"), ("CentrifugeUnit", 176, "it is so"), ("CentrifugeUnit", 184, "not 1 to 2,000 ticks"), ("CentrifugeUnit", 233, "nothing to look at"), ("CentrifugeUnit", 253, "nothing of a record"), ("CentrifugeUnit", 263, "no record that is kept")]
def xn_cast : List Cond := [.castable "java/lang/IllegalArgumentException" "java/lang/IllegalArgumentException", .declares ⟨"java/lang/RuntimeException", "<init>", "()V"⟩, .declares ⟨"java/lang/RuntimeException", "<init>", "(Ljava/lang/String;)V"⟩, .declares ⟨"java/lang/Exception", "<init>", "()V"⟩, .declares ⟨"java/lang/Exception", "<init>", "(Ljava/lang/String;)V"⟩, .declares ⟨"java/lang/Throwable", "<init>", "()V"⟩, .declares ⟨"java/lang/Throwable", "<init>", "(Ljava/lang/String;)V"⟩, .castable "java/lang/IllegalStateException" "java/lang/IllegalStateException", .castable "java/lang/IndexOutOfBoundsException" "java/lang/IndexOutOfBoundsException", .not (.castable "java/lang/IllegalStateException" "java/lang/IllegalArgumentException"), .not (.castable "java/lang/IndexOutOfBoundsException" "java/lang/IllegalArgumentException")]
def xq (U : State) : Prop := (∀ q ∈ xn_nest, (Cond.methodLinkNest q.1 q.2.1 q.2.2.1 q.2.2.2).before #[] U = true) ∧ (∀ q ∈ xn_str, ∃ a, vk_R q.1 q.2.1 q.2.2 a U) ∧ (∀ w ∈ xn_cast, w.before #[] U = true)
theorem xc_keeps : xn_cast.all Cond.keepsCast = true := by decide +kernel
theorem xc_vm {U U' : State} (h : U.vm = U'.vm) : ∀ w ∈ xn_cast, w.before #[] U = w.before #[] U' := by
  intro w hw
  simp only [xn_cast, List.mem_cons, List.not_mem_nil, or_false] at hw
  rcases hw with rfl | rfl | rfl | rfl | rfl | rfl | rfl | rfl | rfl | rfl | rfl <;> simp only [Cond.before, Cond.holds, Cond.value, State.fieldNamed?, State.fieldFound?, State.methodNamed?, State.methodFound?, h]
theorem xq_warm {s U : State} (hW : s.WarmedH U.vm) (h : xq s) : xq U := by
  refine ⟨fun q hq => va_Nw.warmM hW (h.1 q hq), fun q hq => ?_, fun w hw => ?_⟩
  · obtain ⟨a, ha⟩ := h.2.1 q hq
    exact ⟨a, vk_R.warm hW ha⟩
  · have h1 := Cond.before_shiftedCast (State.Shifted.of_warmed hW) w (List.all_eq_true.mp xc_keeps w hw) (h.2.2 w hw)
    rw [xc_vm (U := s.setVm U.vm) (U' := U) rfl w hw] at h1
    exact h1
theorem xq_same {u U : State} (hv : U.vm = u.vm) (h : xq u) : xq U := xq_warm (s := u) (by rw [hv]; exact State.WarmedH.refl u) h
/-- Throwable's two statics: words on the heap, of a cell that was there at the start -/
def xn_stat : List Cond := [.laysStatic "java/lang/Throwable" "UNASSIGNED_STACK" "[Ljava/lang/StackTraceElement;", .laysStatic "java/lang/Throwable" "SUPPRESSED_SENTINEL" "Ljava/util/List;", .isRef (.static "java/lang/Throwable" "UNASSIGNED_STACK" "[Ljava/lang/StackTraceElement;"), .isRef (.static "java/lang/Throwable" "SUPPRESSED_SENTINEL" "Ljava/util/List;")]
def xs (U : State) : Prop := ∀ w ∈ xn_stat, w.before #[] U = true
theorem xs_keeps : xn_stat.all Cond.keepsCast = true := by decide +kernel
theorem xs_lay {a n d : String} {V U : State} (hv : V.vm = U.vm) (hh : ∀ q : Nat, q < V.heap.size → U.heap[q]? = V.heap[q]?) (h : (Cond.laysStatic a n d).before #[] V = true) : (Cond.laysStatic a n d).before #[] U = true := by
  simp only [Cond.before, Cond.holds, Cond.value, State.fieldFound?, hv] at h ⊢
  revert h
  split
  · rename_i c c' k i f _ _
    intro h
    cases hk : k.statics with
    | none => simp [hk] at h
    | some x =>
      cases hc : V.heap[x]? with
      | none => simp [hk, hc] at h
      | some cell =>
        have e := hh x (Array.getElem?_eq_some_iff.mp hc).1
        simp only [hk, hc, e, Option.bind_some] at h ⊢
        exact h
  · intro h; exact h
theorem xs_ref {a n d : String} {V U : State} (hv : V.vm = U.vm) (hh : ∀ q : Nat, q < V.heap.size → U.heap[q]? = V.heap[q]?) (h : (Cond.isRef (.static a n d)).before #[] V = true) : (Cond.isRef (.static a n d)).before #[] U = true := by
  have e : ∀ v, (Term.static a n d).eval #[] V none [] V = some v → (Term.static a n d).eval #[] U none [] U = some v := by
    intro v hev
    have en : U.fieldNamed? a n d true = V.fieldNamed? a n d true := by simp only [State.fieldNamed?, State.fieldFound?, hv]
    simp only [Term.eval] at hev ⊢
    rw [en]
    cases hf : V.fieldNamed? a n d true with
    | none => simp [hf] at hev
    | some r =>
      obtain ⟨r1, k, slot⟩ := r
      cases hk : k.statics with
      | none => simp [hf, hk] at hev
      | some x =>
        cases hc : V.heap[x]? with
        | none => simp [hf, hk, hc] at hev
        | some cell =>
          have e := hh x (Array.getElem?_eq_some_iff.mp hc).1
          simp only [hf, hk, hc, e, Option.bind_eq_bind, Option.bind_some] at hev ⊢
          exact hev
  simp only [Cond.before, Cond.holds, Cond.value] at h ⊢
  cases hx : (Term.static a n d).eval #[] V none [] V with
  | none => simp [hx] at h
  | some v => rw [e v hx]; rw [hx] at h; exact h
theorem xs_kept {s U : State} (hW : s.WarmedH U.vm) (hh : ∀ q : Nat, q < s.heap.size → U.heap[q]? = s.heap[q]?) (h : xs s) : xs U := by
  intro w hw
  have h1 := Cond.before_shiftedCast (State.Shifted.of_warmed hW) w (List.all_eq_true.mp xs_keeps w hw) (h w hw)
  simp only [xn_stat, List.mem_cons, List.not_mem_nil, or_false] at hw
  rcases hw with rfl | rfl | rfl | rfl
  · exact xs_lay (V := s.setVm U.vm) rfl hh h1
  · exact xs_lay (V := s.setVm U.vm) rfl hh h1
  · exact xs_ref (V := s.setVm U.vm) rfl hh h1
  · exact xs_ref (V := s.setVm U.vm) rfl hh h1
end
section
/-! Rows of my own: a method that throws a new exception (a launch without stack traces), and a caller whose table catches it. -/
def xt_Q (X : String) (st : State) (o : Outcome) (t : State) : Prop :=
  ∃ (a : Nat) (ce : Cell), o = .threw a ∧ t.heap[a]? = some ce ∧ st.vm.findClass X = some ce.cls ∧ ce.vm.isStatics = false
def xt_E (X : String) (mc ms : Nat) (st : State) (o : Outcome) (t : State) : Prop :=
  xt_Q X st o t ∧ st.WarmedH t.vm ∧ st.sameButNew ({ t with vm := st.vm } : State) [] mc ms
/-- the contract of a method that throws a new X, and changes nothing that was there -/
def MetT (l : Launch) (y : MethodName) (ws : List Cond) (rm : Room) (Pc : Array Value → State → Prop) (X : String) (mc ms : Nat) : Prop :=
  MetFree l y (headSpec ws rm) Pc (fun _ _ _ _ _ => True) (fun _ st o t => xt_E X mc ms st o t)
def xt_Z (below : List Frame) (X : String) (s : State) (mc ms : Nat) : State → Prop := fun t =>
  ∃ o, t.status = .running ∧ Ended t below o ∧ xt_E X mc ms s o t
theorem xt_old {s t : State} {k n : Nat} (h : s.sameButNew ({ t with vm := s.vm } : State) [] k n) :
    s.heap.size ≤ t.heap.size ∧ ∀ q : Nat, q < s.heap.size → t.heap[q]? = s.heap[q]? := by
  refine ⟨h.2.1, fun q hq => ?_⟩
  have hc : s.heap[q]? = some s.heap[q] := Array.getElem?_eq_getElem hq
  obtain ⟨c', h1, h2, h3, h4⟩ := h.2.2.2.2.2 q _ hc
  have h1 : t.heap[q]? = some c' := h1
  have e : c'.slots = (s.heap[q]).slots := Array.ext_getElem? (fun i => h4 i (by simp))
  rw [h1, hc, h2, e]
theorem MetT.ofW {l : Launch} {y : MethodName} {ws ws' : List Cond} {rm : Room} {Pc : Array Value → State → Prop} {X : String} {mc ms : Nat} {cc : ByteArray} {maxL : Nat} {ret : Option FieldType}
    (hy : plainName y.cls = true) (hw : ws = Cond.code y cc maxL ret :: ws')
    (body : ∀ p e s m args below meth c s₁, BodyLoose p l y (headSpec ws rm) cc maxL ret e s m args below meth c s₁ → c.maxLocals = maxL → Pc args s →
      W p l e (headSpec ws rm).room s m args below meth c s.heap [] 0 0 (xt_Z below X s mc ms) (entryFrame m args maxL)) : MetT l y ws rm Pc X mc ms := by
  refine MetFree.of_bodyS (code := cc) (maxLocals := maxL) (ret := ret) hy ?_ ?_
  · intro args s m h hn
    obtain ⟨meth, c, h1, h2, h3, h4, h5, h6, -, -⟩ := Cond.code_spec hn (atoms_spec (ws := ws) h _ (by rw [hw]; exact List.mem_cons_self))
    exact ⟨meth, c, h1, h2, h3, h4, h5, h6⟩
  · intro p e s m args below meth c s₁ B hml hP _
    have hh0 : s₁.heap = s.heap := by rw [B.state]; rfl
    obtain ⟨t, a1, o, b1, b2, b3⟩ := body p e s m args below meth c s₁ B hml hP s₁ hh0 (Stand.of_body B)
    exact ⟨t, o, a1, b1, b2, b3⟩
section XT
variable {p : Program} {l : Launch} {e : Env} {R : Room} {s : State} {m : MethodId} {args : Array Value} {below : List Frame} {meth : Method} {c : Code} {H : Heap} {locs : List Loc} {cells slots : Nat} {Q : State → Prop}
/-- new X(text), thrown, in a method without handlers, nothing old written so far -/
theorem xt_throw {cc : ByteArray} (hexec : p.tables.exec = Jvm.exec) (hb : c.code = cc) (htl : l.stackTraces = false) {own X tx : String} {names : List String} {i0 i1 i2 q : Nat}
    (hown : s.vm.findClass own = some m.cls) (hcl : (Cond.classLink own i0 X).before args s = true) (hins : (Cond.instantiable X 6).before args s = true) (hini : (Cond.initialized X).before args s = true)
    (hZ : vk_R own i1 tx q s) (hw : ∀ a ∈ Bundle.ownAtoms own i2 X names, a.before args s = true) (hfit : Bundle.fit X = true) (hnames : ∀ n ∈ names, Bundle.fit n = true)
    {pc : Nat} {ls : Array Slot} (d0 : decode cc pc = .ok (.new i0, 3)) (d3 : decode cc (pc + 3) = .ok (.dup, 1)) (d4 : decode cc (pc + 4) = .ok (.ldc i1, 2)) (d6 : decode cc (pc + 6) = .ok (.invokespecial i2, 3)) (d9 : decode cc (pc + 9) = .ok (.athrow, 1))
    (hout : c.exceptionTable.isEmpty = true) (hsz : ls.size = c.maxLocals) (hlocks : meth.locks = false) (hRf : names.length + 3 < R.frames) (hRl : 1 + (13 * (names.length + 1) + 42) ≤ R.locals) (hRc : 1 ≤ R.cells) (hRs : 6 ≤ R.slots) :
    W p l e R s m args below meth c s.heap [] 0 0 (xt_Z below X s 1 6) (F0 m pc ls []) := by
  refine W.newc hexec hb hown hcl hins hini rfl d0 (by simpa using hRc) (by simpa using hRs) fun cX kX h1 h2 h3 h4 => ?_
  refine lv_dup hexec hb d3 rfl ?_
  refine va_ldcS hexec hb hown hZ d4 ?_
  intro T hT V
  have htr : e.platform.stackTraces = false := by rw [V.admits.platform]; exact htl
  have hno : ∀ x ∈ c.exceptionTable.toList, covers x (pc + 6 + 3) = false := by
    have h0 : c.exceptionTable.size = 0 := by simpa [Array.isEmpty] using hout
    have h1 : c.exceptionTable.toList = [] := List.eq_nil_of_length_eq_zero (by simpa using h0)
    intro x hx
    rw [h1] at hx
    cases hx
  obtain ⟨U, u1, u2, u3, u4, u5, ce, u6, u7⟩ := V.ctorThrowS hexec htr hown hfit hnames hw (by intro x hx; cases hx) (a := s.heap.size) (cX := cX) (kX := kX) h1 h2
    (by rw [hT]; simp [freshCell]) (Nat.le_refl _) (msg := .ref q) rfl
    (g := F0 m (pc + 6) ls [.ref q, .ref s.heap.size, .ref s.heap.size]) rfl hsz rfl rfl (rest := []) rfl (by rw [hb]; exact d6) (by rw [hb]; exact d9) hno hRf (by simpa [Value.category] using hRl) hlocks
  exact ⟨U, u1, .threw s.heap.size, u2, u3, ⟨s.heap.size, ce, rfl, u6, u7.cls, by rw [u7.vm]; rfl⟩, u4, by simpa using u5⟩
end XT
/-- a method's table, at a pc, for an object of a class: which handler takes it -/
def xt_row (pl : Platform) (s₀ : State) (d : ClassId) (pc : Nat) (th : ClassId) : List ExceptionTableEntry → Nat → Prop
  | [], _ => False
  | x :: t, h => (covers x pc = false ∧ xt_row pl s₀ d pc th t h) ∨ (covers x pc = true ∧ x.catchType ≠ 0 ∧ ∃ cT : ClassId, s₀.vm.ClassLinks pl d x.catchType cT ∧
      ((s₀.vm.assignable th cT = true ∧ h = x.handlerPc) ∨ (s₀.vm.assignable th cT = false ∧ xt_row pl s₀ d pc th t h)))
theorem xt_step {Q : Handler → Pre} {E : CtlPost} {e : Env} {d : Bool} {acts : List Action} {s : State} {f : JFrame} {a : Addr} {x : ExceptionTableEntry} {t : List ExceptionTableEntry} {cT : ClassId} {cell : Cell} (hx : covers x f.pc = true) (h0 : x.catchType ≠ 0)
    (hl : s.vm.ClassLinks e.platform f.method.cls x.catchType cT) (hcell : s.heap[a]? = some cell) (hobj : ∀ k, cell.vm ≠ .statics k)
    (hk : ∃ k, s.vm.classes[cell.cls]? = some k) (hc : ∃ k, s.vm.classes[cT]? = some k) (y : Bool) (hy : s.vm.assignable cell.cls cT = y) :
    wp (findHandler.go f a (x :: t)) Q E e d acts s ↔ (if y = true then Q (.found x.handlerPc) d acts (s.setVm (s.vm.noted f.method.cls x.catchType (.cls cT))) else wp (findHandler.go f a t) Q E e d acts (s.setVm (s.vm.noted f.method.cls x.catchType (.cls cT)))) := by
  simp only [covers] at hx
  obtain ⟨w1, w2⟩ := (resolveClass_links e.toSetting hl).op (op := VmOp.resolveClass f.method.cls x.catchType) rfl
  have hal : s.vm.Alike (s.vm.noted f.method.cls x.catchType (.cls cT)) := (Vm.Alike.refl s.vm).noted _ _ _
  obtain ⟨k1, hk1⟩ := hk
  obtain ⟨k2, hk2⟩ := hc
  obtain ⟨k3, hk3, -⟩ := hal.2.2 _ _ hk1
  obtain ⟨k4, hk4, -⟩ := hal.2.2 _ _ hk2
  have hy' : (s.vm.noted f.method.cls x.catchType (.cls cT)).assignable cell.cls cT = y := by rw [hal.assignable]; exact hy
  cases y <;> simp [findHandler.go, hx, h0, w1, w2, hcell, hobj, hk3, hk4, hy', VmOp.dirties, VmOp.acts]
theorem xt_goes {e : Env} {s₀ : State} {f : JFrame} {a : Addr} {cell : Cell} (hobj : ∀ k, cell.vm ≠ .statics k) (hk0 : ∃ k, s₀.vm.classes[cell.cls]? = some k) :
    ∀ (t : List ExceptionTableEntry) (h : Nat) (S : State), s₀.WarmedH S.vm → S.heap[a]? = some cell → xt_row e.platform s₀ f.method.cls f.pc cell.cls t h →
      ∃ vm', s₀.WarmedH vm' ∧ ∀ (Q : Handler → Pre) (E : CtlPost) (d : Bool) (acts : List Action), wp (findHandler.go f a t) Q E e d acts S ↔ Q (.found h) d acts (S.setVm vm') := by
  obtain ⟨k0, hk0⟩ := hk0
  intro t
  induction t with
  | nil => intro h S _ _ hr; exact hr.elim
  | cons x t ih =>
    intro h S hW hcell hr
    rcases hr with ⟨h1, h2⟩ | ⟨h1, h2, cT, hl, h3⟩
    · obtain ⟨vm', w1, w2⟩ := ih h S hW hcell h2
      exact ⟨vm', w1, fun Q E d acts => by rw [W.findHandler_go_skip h1]; exact w2 Q E d acts⟩
    · obtain ⟨dk, _, _, kt, hd, _, _, _, _, hkt, _, hopen⟩ := hl.here
      obtain ⟨k0', hk0', -⟩ := hW.alike.2.2 _ _ hk0
      obtain ⟨kt', hkt', -⟩ := hW.alike.2.2 _ _ hkt
      have hN := hW.noted hd hopen (State.rightAt_cls hl)
      rcases h3 with ⟨h3, rfl⟩ | ⟨h3, h4⟩
      · exact ⟨_, hN, fun Q E d acts => by
          rw [xt_step h1 h2 (hW.classLinks hl) hcell hobj ⟨k0', hk0'⟩ ⟨kt', hkt'⟩ true (by rw [hW.alike.assignable]; exact h3), if_pos rfl]⟩
      · obtain ⟨vm', w1, w2⟩ := ih h (S.setVm (S.vm.noted f.method.cls x.catchType (.cls cT))) hN hcell h4
        exact ⟨vm', w1, fun Q E d acts => by
          rw [xt_step h1 h2 (hW.classLinks hl) hcell hobj ⟨k0', hk0'⟩ ⟨kt', hkt'⟩ false (by rw [hW.alike.assignable]; exact h3), if_neg (by decide)]
          exact w2 Q E d acts⟩
/-- one step of the unwinding: into the handler -/
theorem xt_caught {tb : Tables} {e : Env} {s target : State} {g : JFrame} {c : Code} {below : List Frame} {a : Addr} (h : At s g.method c below) {pc : Nat} {vm' : Vm}
    (hf : ∀ (Q : Handler → Pre) (E : CtlPost) (d : Bool) (acts : List Action), wp (findHandler g a) Q E e d acts ((s.setTop g).pushFrame (.throwing a)) ↔ Q (.found pc) d acts (((s.setTop g).pushFrame (.throwing a)).setVm vm'))
    (hrest : Steps tb e below ((s.setVm vm').setTop { g with pc := pc, stack := [.ref a] }) target) :
    Steps tb e below ((s.setTop g).pushFrame (.throwing a)) target := by
  obtain ⟨hgo, hw⟩ := h.throwing a
  refine Steps.head hgo hw ?_
  rw [stepThread_throwing (frames_entered h.top _)]
  have hst : ∀ r, (stepThrowing e ((s.setTop g).pushFrame (.throwing a)) a (.java g :: r)).Is ((((s.setTop g).pushFrame (.throwing a)).setVm vm').setFrames (.java { g with pc := pc, stack := [.ref a] } :: r)) [] := by
    intro r
    simp only [stepThrowing, searchFrame, vmDo]
    generalize hr : Sem.go _ e false [] ((s.setTop g).pushFrame (.throwing a)) = res
    obtain ⟨as, rfl, ha⟩ := Sem.eq_ok_of hr (a := Handler.found pc) (s' := ((s.setTop g).pushFrame (.throwing a)).setVm vm') (acts' := []) (by simp [hf _ _ _ _])
    exact ⟨rfl, ha⟩
  rw [(hst _).1]
  obtain ⟨g₀, hg⟩ := Option.isSome_iff_exists.mp h.top
  obtain ⟨r, hr⟩ := State.topJava?_eq_some.mp hg
  have hr' : (s.setVm vm').frames = .java g₀ :: r := hr
  have two : ∀ (u : State) (F G : List Frame), ((u.setFrames F).setVm vm').setFrames G = (u.setVm vm').setFrames G := fun u F G => by
    have h1 : (u.setFrames F).setVm vm' = (u.setVm vm').setFrames F := rfl
    rw [h1, State.setFrames_setFrames]
  rw [State.setTop_of_frames _ hr'] at hrest
  rw [hr, List.tail_cons, State.pushFrame, two, State.setTop_of_frames _ hr, two]
  exact hrest
section XC
variable {p : Program} {l : Launch} {e : Env} {R : Room} {s : State} {m : MethodId} {args : Array Value} {below : List Frame} {meth : Method} {c : Code} {H : Heap} {locs : List Loc} {cells slots : Nat} {Q : State → Prop}
variable {y : MethodName} {bytes cc : ByteArray} {maxL nL mc ms n index : Nat} {ret : Option FieldType} {ws : List Cond} {rm : Room} {Pc : Array Value → State → Prop} {Ts : List Cond} {own C X : String} {b : Addr} {As rest : List Value}
/-- invokevirtual of a method that throws, caught by the caller's own table -/
theorem xt_catchV (S : CallFix p m c cc nL s args Ts own) (hM : MetT l y ws rm Pc X mc ms) (cw : CallW R s args own C index y bytes maxL ret ws rm mc ms n) (hp : PreV s H C b Pc As)
    (hn : As.length = n) {pc : Nat} {ls : Array Slot} {st0 : List Value} (hsize : ls.size = nL) (hstack : st0 = As.reverse ++ .ref b :: rest) (hW : (rest.map fun v => v.category).sum ≤ 8) (hdg : decode cc pc = .ok (.invokevirtual index, 3)) (hf : cells + mc ≤ R.cells ∧ slots + ms ≤ R.slots) {hpc : Nat}
    (htab : ∀ pl : Platform, pl.magicAccessors = ({} : Platform).magicAccessors → ∀ th : ClassId, s.vm.findClass X = some th → xt_row pl s m.cls pc th c.exceptionTable.toList hpc)
    (kk : ∀ (a : Nat) (H1 : Heap), H.size ≤ H1.size → (∀ q : Nat, q < H.size → H1[q]? = H[q]?) → W p l e R s m args below meth c H1 locs (cells + mc) (slots + ms) Q (F0 m hpc ls [.ref a])) :
    W p l e R s m args below meth c H locs cells slots Q (F0 m pc ls st0) := by
  obtain ⟨⟨hrc, hrs, hfr, hlo, hws, hcw, hcode, hini, hy, hlen, hl⟩, hin, hse⟩ := cw
  obtain ⟨hx, hb, hml, ho, -⟩ := S
  obtain ⟨hblind, ⟨cellB, hcB, hoB, hclB⟩, hPc⟩ := hp
  intro T hT V
  obtain ⟨mk, methM, hnamed, hmethM, hstM, habM⟩ := Cond.instanceMethod_spec hin
  obtain ⟨methM', cM, hmethM', hcM, -, hlM, -, -, -, hsigM⟩ := Cond.code_spec hnamed hcode
  cases hmethM.symm.trans hmethM'
  obtain ⟨c2, r2, m2, q1, q2, q3, q4, kP, hkP, hkPi⟩ := Cond.selects_spec hse
  cases hclB.symm.trans q1
  cases (State.methodFound?_of_named hnamed hy).symm.trans q2
  cases hnamed.symm.trans q3
  have hselP : selectMethod e.platform s.vm cellB.cls mk = .method mk := by rw [Launch.admits_selectMethod V.admits]; exact q4
  obtain ⟨vm₁, V₁, hstep₁⟩ := V.invokevirtual hx ho hl hnamed hmethM hstM hkP hkPi hy (a := b) (cell := cellB) (by rw [hT]; exact hcB)
    (fun z h => by rw [h] at hoB; cases hoB) hselP hmethM habM hkP hkPi (g := F0 m pc ls st0) rfl (argsL := As) (rest := rest) (hn.trans (hlen _ hsigM)) hstack (by rw [hb]; exact hdg)
  have hinitP : kP.init = .initialized := Cond.initialized_spec (findClass_of_methodNamed hnamed) hkP hini
  have hU : (T.setVm vm₁).heap = H := hT
  generalize hUe : T.setVm vm₁ = U at V₁ hU hstep₁
  have h : At U (F0 m pc ls rest).method c below := V₁.here
  have hdg' : decode c.code (F0 m pc ls rest).pc = .ok (.invokevirtual index, 3) := by rw [hb]; exact hdg
  obtain ⟨kQ, hkQ, heQ⟩ := V₁.warmed.alike.2.2 _ _ hkP
  have happ : (headSpec ws rm).appliesLoose y e.platform (U.calling (F0 m pc ls rest) mk (Value.ref b :: As).toArray) = true :=
    Spec.appliesLoose_calling (g := F0 m pc ls rest) h hdg' (V₁.named hnamed) hkQ (by rw [heQ]; exact hinitP)
      (V₁.room_calling (g := F0 m pc ls rest) (R' := (headSpec ws rm).room) (hsize.trans hml.symm) (show U.vm.method? mk = some methM by rw [V₁.warmed.alike.method?]; exact hmethM) hcM hfr
        (by show 2 * 0 + (rest.map fun v => v.category).sum + (cM.maxLocals + 11) + rm.locals ≤ R.locals; rw [hlM]; omega) (by show cells + rm.cells ≤ R.cells; rw [hrc]; exact hf.1) (by show slots + rm.slots ≤ R.slots; rw [hrs]; exact hf.2))
      (atoms_intro fun w hw => hws w hw _ _ V₁.warmed)
  obtain ⟨mid, hmid⟩ := h.above
  have hfr' : (U.setTop (F0 m pc ls rest)).frames = (.java (F0 m pc ls rest) :: mid) ++ below := by rw [State.frames_setTop' _ h.top, hmid]; rfl
  obtain ⟨o, s₂, hsteps, -, hend, hq⟩ := Steps.callFree hM p V.admits V.cas V.clock (acts := []) hfr' happ (hblind _ _ _ _ (hPc U hU V₁.warmed)) trivial
  have hq' : xt_E X mc ms (U.calling (F0 m pc ls rest) mk (Value.ref b :: As).toArray) o s₂ := hq
  obtain ⟨⟨a, ce, rfl, hce, hcl, hst⟩, hW₂, hsm⟩ := hq'
  obtain ⟨e2, q2', q3', q4', q5', q6'⟩ := id hsm
  rw [State.frames_setTop' _ h.top] at hend
  have hf₂ : s₂.frames = .throwing a :: .java (F0 m pc ls rest) :: U.frames.tail := hend
  have hWU : U.WarmedH s₂.vm := hW₂
  have e3 : s₂ = ({ (U.calling (F0 m pc ls rest) mk (Value.ref b :: As).toArray).setFrames s₂.frames with heap := s₂.heap, slotsUsed := s₂.slotsUsed } : State).setVm s₂.vm := by
    have : s₂ = ({ s₂ with vm := (U.calling (F0 m pc ls rest) mk (Value.ref b :: As).toArray).vm } : State).setVm s₂.vm := rfl
    rw [e2] at this
    exact this
  obtain ⟨g₀, hg0⟩ := Option.isSome_iff_exists.mp h.top
  obtain ⟨r, hr⟩ := State.topJava?_eq_some.mp hg0
  have hs₂ : s₂ = ((({ U with heap := s₂.heap, slotsUsed := s₂.slotsUsed } : State).setVm s₂.vm).setTop (F0 m pc ls rest)).pushFrame (.throwing a) := by
    have hr' : (({ U with heap := s₂.heap, slotsUsed := s₂.slotsUsed } : State).setVm s₂.vm).frames = .java g₀ :: r := hr
    refine e3.trans ?_
    rw [hf₂, State.calling_eq h.top, State.setFrames_setFrames, State.pushFrame, State.frames_setTop _ hr', State.setTop_of_frames _ hr', State.setFrames_setFrames, hr]
    rfl
  have hsame : U.sameButNew ({ U with heap := s₂.heap, slotsUsed := s₂.slotsUsed } : State) [] mc ms := by
    refine ⟨?_, q2', q3', q4', q5', q6'⟩
    obtain ⟨t, ht, -⟩ := State.frames_cons hr
    show ({ U with heap := s₂.heap, slotsUsed := s₂.slotsUsed } : State) = { U.setFrames U.frames with heap := s₂.heap, slotsUsed := s₂.slotsUsed }
    rw [State.setFrames_self ht]
  have V₂ : Stand p l e R s m args below meth c (({ U with heap := s₂.heap, slotsUsed := s₂.slotsUsed } : State).setVm s₂.vm) (locs ++ []) (cells + mc) (slots + ms) :=
    ⟨V₁.admits, V₁.cas, V₁.clock, V₁.frames, V₁.room, V₁.hears, V₁.method, V₁.code, (V₁.here.setHeapUsed s₂.heap s₂.slotsUsed).setVm hWU.alike, V₁.tail, State.WarmedH.trans V₁.warmed hWU, V₁.limits, V₁.bytes, V₁.same.trans (hsame.setVm s.vm)⟩
  rw [List.append_nil] at V₂
  have hold := xt_old (s := U.calling (F0 m pc ls rest) mk (Value.ref b :: As).toArray) (t := s₂) hsm
  have hcl' : s.vm.findClass X = some ce.cls := by rw [← V₁.warmed.alike.findClass]; exact hcl
  generalize hV : (({ U with heap := s₂.heap, slotsUsed := s₂.slotsUsed } : State).setVm s₂.vm) = Z at V₂ hs₂
  have hZh : Z.heap = s₂.heap := by rw [← hV]; rfl
  have hpl : e.platform.magicAccessors = ({} : Platform).magicAccessors := by rw [V.admits.platform]
  obtain ⟨vm', hW', hfind⟩ := xt_goes (e := e) (s₀ := s) (f := F0 m pc ls rest) (a := a) (cell := ce) (VmData.ne_statics_of hst) (Vm.classAt_of_findClass hcl') c.exceptionTable.toList hpc ((Z.setTop (F0 m pc ls rest)).pushFrame (.throwing a))
    (by rw [Stand.throwing_vm]; exact V₂.warmed) (by rw [Stand.throwing_heap, hZh]; exact hce) (htab _ hpl _ hcl')
  obtain ⟨t, a1, b1⟩ := kk a s₂.heap (by rw [← hU]; exact hold.1) (fun q hq => by rw [← hU]; exact hold.2 q (by rw [← hU] at hq; exact hq)) (Z.setVm vm') hZh (V₂.noted hW')
  refine ⟨t, hstep₁ _ fun acts => ?_, b1⟩
  rw [doInvoke_state]
  refine hsteps.trans ?_
  rw [hs₂]
  exact xt_caught (g := F0 m pc ls rest) V₂.here (fun Q E d acts => by rw [W.findHandler_eq (meth := meth) (code := c) (by rw [Stand.throwing_vm]; exact V₂.method') V₂.code]; exact hfind Q E d acts) a1
end XC
end
section
/-! my own: one memory for all fields, the uniform start and end of a contract, and calls in one row -/
/-- ints, longs, int arrays, long arrays: by the numbers of 04.names -/
abbrev XM : Type := (Nat → Int32) × (Nat → Int64) × (Nat → Nat → Int32) × (Nat → Nat → Int64)
abbrev xty (Z : Nat → ClassId) : List (ClassId × FieldType) := [(Z 0, .int), (Z 1, .long), (Z 2, .boolean)]
def xB (D : va_G) (cl : List vw_C) (tys : List (ClassId × FieldType)) (sz : Nat) (ws : va_W) (U : State) : Prop :=
  U.heap.size = sz ∧ va_P D cl ws U.heap ∧ va_K D cl tys U ∧ va_D (fun _ => True) ws ∧ xq U
theorem xB_blind {D : va_G} {cl : List vw_C} {tys : List (ClassId × FieldType)} {sz : Nat} {ws : va_W} {av : List Value} : FrameBlind (va_Pc av (xB D cl tys sz ws)) := fun a U g mk h => by
  obtain ⟨h0, h1, h2, h3, h4, h5⟩ := h
  exact ⟨h0, h1, h2, va_K.moved (u := U) (U := U.calling g mk a) (Vm.Alike.refl U.vm) h3, h4, xq_same (u := U) (U := U.calling g mk a) rfl h5⟩
theorem xB_at {D : va_G} {cl : List vw_C} {tys : List (ClassId × FieldType)} {ws : va_W} {A : Nat → Prop} {s : State} {H : Heap} (hP : va_P D cl ws H) (hK : va_K D cl tys s) (hD : va_D A ws) (hq : xq s) (U : State) (hU : U.heap = H) (hW : s.WarmedH U.vm) : xB D cl tys H.size ws U :=
  ⟨by rw [hU], by rw [hU]; exact hP, va_K.moved hW.alike hK, hD.weaken (fun _ _ _ _ => trivial), xq_warm hW hq⟩
/-- the world behind a method -/
def xE (D : va_G) (cl : List vw_C) (tys : List (ClassId × FieldType)) (A : Nat → Prop) (ws : va_W) (t : State) : Prop := va_P D cl ws t.heap ∧ va_K D cl tys t ∧ va_D A ws
theorem xE_at {D : va_G} {cl : List vw_C} {tys : List (ClassId × FieldType)} {ws : va_W} {A : Nat → Prop} {s t : State} {H : Heap} (hP : va_P D cl ws H) (hK : va_K D cl tys s) (hD : va_D A ws) (ht : t.heap = H) (hW : s.WarmedH t.vm) : xE D cl tys A ws t :=
  ⟨by rw [ht]; exact hP, va_K.moved hW.alike hK, hD⟩
theorem xw_V (c0 : Cond) {c1 : Cond} {own C : String} {idx : Nat} {y : MethodName} (h1 : Cond.methodLink own idx y ∈ xw) (h2 : Cond.instanceMethod y ∈ xw) (h3 : Cond.selects C y y ∈ xw) (h4 : Cond.initialized C ∈ xw) (h5 : c1 ∈ xw) : GoodIn (c0 :: xw) (wsV own idx C y (c1 :: xw)) :=
  xw_app c0 (List.forall_mem_cons.mpr ⟨h1, List.forall_mem_cons.mpr ⟨h2, List.forall_mem_cons.mpr ⟨h3, List.forall_mem_cons.mpr ⟨h4, fun _ h => absurd h List.not_mem_nil⟩⟩⟩⟩) (xw_call c0 h5)
theorem xw_S (c0 : Cond) {c1 : Cond} {own : String} {idx : Nat} {y : MethodName} (h1 : Cond.methodLink own idx y ∈ xw) (h2 : Cond.static y ∈ xw) (h4 : Cond.initialized y.cls ∈ xw) (h5 : c1 ∈ xw) : GoodIn (c0 :: xw) (va_wsS own idx y (c1 :: xw)) :=
  xw_app c0 (List.forall_mem_cons.mpr ⟨h1, List.forall_mem_cons.mpr ⟨h2, List.forall_mem_cons.mpr ⟨h4, fun _ h => absurd h List.not_mem_nil⟩⟩⟩) (xw_call c0 h5)
section XK
variable {p : Program} {l : Launch} {e : Env} {R : Room} {s : State} {m : MethodId} {args : Array Value} {below : List Frame} {meth : Method} {c : Code} {H : Heap} {locs : List Loc} {cells slots : Nat} {Q : State → Prop}
variable {pc : Nat} {ls : Array Slot} {rest st0 : List Value} {a : Array Value} {A0 : Nat → Prop} {H0 : Heap} {mc ms : Nat} {D : va_G} {cl : List vw_C} {tys : List (ClassId × FieldType)} {ws wc wr : va_W}
/-- a call of a method that only reads -/
theorem xk_p {r : Value} (hr : va_Run p l e R s m args below meth c H locs cells slots 0 0 (F0 m pc ls st0) rest (k2_QcV r a) (fun _ => False))
    (kk : W p l e R s m args below meth c H locs cells slots Q (F0 m (pc + 3) ls (r :: rest))) : W p l e R s m args below meth c H locs cells slots Q (F0 m pc ls st0) :=
  W.callV hr.run kk
/-- a call of a method that writes its world: no answer -/
theorem xk_v {S : Type} {post : S → Prop} {w1 : S → va_W} (hr : va_Run p l e R s m args below meth c H locs cells slots mc ms (F0 m pc ls st0) rest (va_Qv post (fun u => xE D cl tys (va_A wc H.size) (w1 u)) (va_A wc H.size) a) (va_A wc H.size))
    (hP : va_P D cl ws H) (hD : va_D A0 ws) (hS : va_S A0 H0 H locs) (hA : ∀ q, H0.size ≤ q → A0 q) (isC isR : List Nat) (hC : isC.map (fun i => ws[i]?) = wc.map some) (hR : isR.map (fun i => ws[i]?) = wr.map some) (hn : va_nd isR = true) (hdis : ∀ i ∈ isR, i ∉ isC)
    (kk : ∀ (u : S) (H1 : Heap) (locs1 : List Loc), post u → va_P D cl (wr ++ w1 u) H1 → va_D A0 (wr ++ w1 u) → va_S A0 H0 H1 locs1 → W p l e R s m args below meth c H1 locs1 (cells + mc) (slots + ms) Q (F0 m (pc + 3) ls rest)) : W p l e R s m args below meth c H locs cells slots Q (F0 m pc ls st0) := by
  have hFc := va_free (wc := wc) hD hS hA isC hC
  refine va_callv hr hS (fun q _ h => hFc q h) hFc (fun u t H1 locs1 ht hvm hu hB hz1 hk1 hS1 => ?_)
  obtain ⟨hP1, hK1, hD1⟩ := hB
  rw [ht] at hP1
  obtain ⟨hP2, hD2⟩ := va_join hP hD isC isR hC hR hn hdis hk1 hFc hP1 hD1
  exact kk u H1 locs1 hu hP2 hD2 hS1
theorem xk_i {S : Type} {post : Int32 → S → Prop} {w1 : S → va_W} (hr : va_Run p l e R s m args below meth c H locs cells slots mc ms (F0 m pc ls st0) rest (va_Qi post (fun u => xE D cl tys (va_A wc H.size) (w1 u)) (va_A wc H.size) a) (va_A wc H.size))
    (hP : va_P D cl ws H) (hD : va_D A0 ws) (hS : va_S A0 H0 H locs) (hA : ∀ q, H0.size ≤ q → A0 q) (isC isR : List Nat) (hC : isC.map (fun i => ws[i]?) = wc.map some) (hR : isR.map (fun i => ws[i]?) = wr.map some) (hn : va_nd isR = true) (hdis : ∀ i ∈ isR, i ∉ isC)
    (kk : ∀ (r : Int32) (u : S) (H1 : Heap) (locs1 : List Loc), post r u → va_P D cl (wr ++ w1 u) H1 → va_D A0 (wr ++ w1 u) → va_S A0 H0 H1 locs1 → W p l e R s m args below meth c H1 locs1 (cells + mc) (slots + ms) Q (F0 m (pc + 3) ls (.int r :: rest))) : W p l e R s m args below meth c H locs cells slots Q (F0 m pc ls st0) := by
  have hFc := va_free (wc := wc) hD hS hA isC hC
  refine va_calli hr hS (fun q _ h => hFc q h) hFc (fun r u t H1 locs1 ht hvm hu hB hz1 hk1 hS1 => ?_)
  obtain ⟨hP1, hK1, hD1⟩ := hB
  rw [ht] at hP1
  obtain ⟨hP2, hD2⟩ := va_join hP hD isC isR hC hR hn hdis hk1 hFc hP1 hD1
  exact kk r u H1 locs1 hu hP2 hD2 hS1
theorem xk_l {S : Type} {post : Int64 → S → Prop} {w1 : S → va_W} (hr : va_Run p l e R s m args below meth c H locs cells slots mc ms (F0 m pc ls st0) rest (va_Ql post (fun u => xE D cl tys (va_A wc H.size) (w1 u)) (va_A wc H.size) a) (va_A wc H.size))
    (hP : va_P D cl ws H) (hD : va_D A0 ws) (hS : va_S A0 H0 H locs) (hA : ∀ q, H0.size ≤ q → A0 q) (isC isR : List Nat) (hC : isC.map (fun i => ws[i]?) = wc.map some) (hR : isR.map (fun i => ws[i]?) = wr.map some) (hn : va_nd isR = true) (hdis : ∀ i ∈ isR, i ∉ isC)
    (kk : ∀ (r : Int64) (u : S) (H1 : Heap) (locs1 : List Loc), post r u → va_P D cl (wr ++ w1 u) H1 → va_D A0 (wr ++ w1 u) → va_S A0 H0 H1 locs1 → W p l e R s m args below meth c H1 locs1 (cells + mc) (slots + ms) Q (F0 m (pc + 3) ls (.long r :: rest))) : W p l e R s m args below meth c H locs cells slots Q (F0 m pc ls st0) := by
  have hFc := va_free (wc := wc) hD hS hA isC hC
  refine va_calll hr hS (fun q _ h => hFc q h) hFc (fun r u t H1 locs1 ht hvm hu hB hz1 hk1 hS1 => ?_)
  obtain ⟨hP1, hK1, hD1⟩ := hB
  rw [ht] at hP1
  obtain ⟨hP2, hD2⟩ := va_join hP hD isC isR hC hR hn hdis hk1 hFc hP1 hD1
  exact kk r u H1 locs1 hu hP2 hD2 hS1
end XK
theorem xz_nar {z : Int32} (h : z = 0 ∨ z = 1) : narrow .boolean (.int z) = .int z := by rcases h with rfl | rfl <;> rfl
theorem xz_fit {z : Int32} (h : z = 0 ∨ z = 1) : fits .boolean (.int z) = true := by rcases h with rfl | rfl <;> rfl
section XJ
variable {p : Program} {l : Launch} {e : Env} {R : Room} {s : State} {m : MethodId} {args : Array Value} {below : List Frame} {meth : Method} {c : Code} {H : Heap} {locs : List Loc} {cells slots : Nat} {Q : State → Prop} {g0 : JFrame}
/-- two roads that meet: what differs at the meeting is one value j -/
theorem xj_p {T : Type} (nL J : Nat) (lvf : T → List (Nat × Value)) (stf : T → List Value) (P : T → Prop)
    (k1 : (∀ (ls : Array Slot) (j : T), lv_has ls nL (lvf j) → P j → W p l e R s m args below meth c H locs cells slots Q (F0 m J ls (stf j))) → W p l e R s m args below meth c H locs cells slots Q g0)
    (k2 : ∀ (ls : Array Slot) (j : T), lv_has ls nL (lvf j) → P j → W p l e R s m args below meth c H locs cells slots Q (F0 m J ls (stf j))) : W p l e R s m args below meth c H locs cells slots Q g0 := k1 k2
theorem xj_h {D : va_G} {cl : List vw_C} {AA : Nat → Prop} {H0 : Heap} {T : Type} (nL J : Nat) (lvf : T → List (Nat × Value)) (stf : T → List Value) (wsf : T → va_W) (P : T → Prop)
    (k1 : (∀ (H : Heap) (locs : List Loc) (ls : Array Slot) (j : T), va_P D cl (wsf j) H → va_D AA (wsf j) → va_S AA H0 H locs → lv_has ls nL (lvf j) → P j → W p l e R s m args below meth c H locs cells slots Q (F0 m J ls (stf j))) → W p l e R s m args below meth c H locs cells slots Q g0)
    (k2 : ∀ (H : Heap) (locs : List Loc) (ls : Array Slot) (j : T), va_P D cl (wsf j) H → va_D AA (wsf j) → va_S AA H0 H locs → lv_has ls nL (lvf j) → P j → W p l e R s m args below meth c H locs cells slots Q (F0 m J ls (stf j))) : W p l e R s m args below meth c H locs cells slots Q g0 := k1 k2
end XJ
end
section
/-! printed by my own program (wip/gen): classes, fields, cells -/
def xF0 : u_T := fun k => match k with
  | 0 => ("CentrifugeUnit$Control", "rotors", "LCentrifugeUnit$Rotors;", true)
  | 1 => ("CentrifugeUnit$Control", "program", "LCentrifugeUnit$Program;", true)
  | 2 => ("CentrifugeUnit$Control", "sensors", "LCentrifugeUnit$Sensors;", true)
  | 3 => ("CentrifugeUnit$Control", "lid", "LCentrifugeUnit$Lid;", true)
  | 4 => ("CentrifugeUnit$Control", "records", "LCentrifugeUnit$Records;", true)
  | 5 => ("CentrifugeUnit$Control", "watch", "LCentrifugeUnit$Watch;", true)
  | 6 => ("CentrifugeUnit$Control", "run", "LCentrifugeUnit$Run;", true)
  | 7 => ("CentrifugeUnit$Control", "powered", "Z", false)
  | 8 => ("CentrifugeUnit$Control", "chamberCenti", "I", false)
  | 9 => ("CentrifugeUnit$Control", "state", "I", false)
  | 10 => ("CentrifugeUnit$Control", "reason", "I", false)
  | 11 => ("CentrifugeUnit$Control", "drive", "I", false)
  | 12 => ("CentrifugeUnit$Control", "brake", "I", false)
  | _ => ("CentrifugeUnit$Control", "coilFed", "Z", false)
def xT0 : Nat → FieldType := fun k => match k with
  | 0 => .object "CentrifugeUnit$Rotors"
  | 1 => .object "CentrifugeUnit$Program"
  | 2 => .object "CentrifugeUnit$Sensors"
  | 3 => .object "CentrifugeUnit$Lid"
  | 4 => .object "CentrifugeUnit$Records"
  | 5 => .object "CentrifugeUnit$Watch"
  | 6 => .object "CentrifugeUnit$Run"
  | 7 => .boolean
  | 8 => .int
  | 9 => .int
  | 10 => .int
  | 11 => .int
  | 12 => .int
  | _ => .boolean
set_option maxRecDepth 20000 in
theorem xNm0 : ∀ a, a < 14 → ∀ b, b < 14 → a ≠ b → (xF0 a).2.1 ≠ (xF0 b).2.1 := by decide +kernel
set_option maxRecDepth 20000 in
theorem xTo0 : ∀ k, k < 14 → parseFieldDescriptor (xF0 k).2.2.1 = some (xT0 k) := by decide +kernel
def xF1 : u_T := fun k => match k with
  | 0 => ("CentrifugeUnit$Lid", "contactA", "Z", false)
  | 1 => ("CentrifugeUnit$Lid", "contactB", "Z", false)
  | _ => ("CentrifugeUnit$Lid", "coilTicksLeft", "I", false)
def xT1 : Nat → FieldType := fun k => match k with
  | 0 => .boolean
  | 1 => .boolean
  | _ => .int
set_option maxRecDepth 20000 in
theorem xNm1 : ∀ a, a < 3 → ∀ b, b < 3 → a ≠ b → (xF1 a).2.1 ≠ (xF1 b).2.1 := by decide +kernel
set_option maxRecDepth 20000 in
theorem xTo1 : ∀ k, k < 3 → parseFieldDescriptor (xF1 k).2.2.1 = some (xT1 k) := by decide +kernel
def xF2 : u_T := fun k => match k with
  | _ => ("CentrifugeUnit$Model", "speed", "J", false)
def xT2 : Nat → FieldType := fun k => match k with
  | _ => .long
set_option maxRecDepth 20000 in
theorem xNm2 : ∀ a, a < 1 → ∀ b, b < 1 → a ≠ b → (xF2 a).2.1 ≠ (xF2 b).2.1 := by decide +kernel
set_option maxRecDepth 20000 in
theorem xTo2 : ∀ k, k < 1 → parseFieldDescriptor (xF2 k).2.2.1 = some (xT2 k) := by decide +kernel
def xF3 : u_T := fun k => match k with
  | 0 => ("CentrifugeUnit$Program", "kinds", "[I", true)
  | 1 => ("CentrifugeUnit$Program", "firsts", "[I", true)
  | 2 => ("CentrifugeUnit$Program", "seconds", "[I", true)
  | _ => ("CentrifugeUnit$Program", "count", "I", false)
def xT3 : Nat → FieldType := fun k => match k with
  | 0 => .array .int
  | 1 => .array .int
  | 2 => .array .int
  | _ => .int
set_option maxRecDepth 20000 in
theorem xNm3 : ∀ a, a < 4 → ∀ b, b < 4 → a ≠ b → (xF3 a).2.1 ≠ (xF3 b).2.1 := by decide +kernel
set_option maxRecDepth 20000 in
theorem xTo3 : ∀ k, k < 4 → parseFieldDescriptor (xF3 k).2.2.1 = some (xT3 k) := by decide +kernel
def xF4 : u_T := fun k => match k with
  | 0 => ("CentrifugeUnit$Records", "reasons", "[I", true)
  | 1 => ("CentrifugeUnit$Records", "doses", "[J", true)
  | 2 => ("CentrifugeUnit$Records", "speeds", "[I", true)
  | _ => ("CentrifugeUnit$Records", "total", "I", false)
def xT4 : Nat → FieldType := fun k => match k with
  | 0 => .array .int
  | 1 => .array .long
  | 2 => .array .int
  | _ => .int
set_option maxRecDepth 20000 in
theorem xNm4 : ∀ a, a < 4 → ∀ b, b < 4 → a ≠ b → (xF4 a).2.1 ≠ (xF4 b).2.1 := by decide +kernel
set_option maxRecDepth 20000 in
theorem xTo4 : ∀ k, k < 4 → parseFieldDescriptor (xF4 k).2.2.1 = some (xT4 k) := by decide +kernel
def xF5 : u_T := fun k => match k with
  | 0 => ("CentrifugeUnit$Rotors", "patterns", "[I", true)
  | 1 => ("CentrifugeUnit$Rotors", "radii", "[I", true)
  | 2 => ("CentrifugeUnit$Rotors", "limits", "[I", true)
  | 3 => ("CentrifugeUnit$Rotors", "inertias", "[I", true)
  | _ => ("CentrifugeUnit$Rotors", "in", "I", false)
def xT5 : Nat → FieldType := fun k => match k with
  | 0 => .array .int
  | 1 => .array .int
  | 2 => .array .int
  | 3 => .array .int
  | _ => .int
set_option maxRecDepth 20000 in
theorem xNm5 : ∀ a, a < 5 → ∀ b, b < 5 → a ≠ b → (xF5 a).2.1 ≠ (xF5 b).2.1 := by decide +kernel
set_option maxRecDepth 20000 in
theorem xTo5 : ∀ k, k < 5 → parseFieldDescriptor (xF5 k).2.2.1 = some (xT5 k) := by decide +kernel
def xF6 : u_T := fun k => match k with
  | 0 => ("CentrifugeUnit$Run", "dose", "J", false)
  | 1 => ("CentrifugeUnit$Run", "turns", "J", false)
  | 2 => ("CentrifugeUnit$Run", "rotorRead", "I", false)
  | 3 => ("CentrifugeUnit$Run", "wrongPattern", "Z", false)
  | 4 => ("CentrifugeUnit$Run", "greatest", "I", false)
  | 5 => ("CentrifugeUnit$Run", "at", "I", false)
  | 6 => ("CentrifugeUnit$Run", "ticksInSegment", "I", false)
  | _ => ("CentrifugeUnit$Run", "goal", "I", false)
def xT6 : Nat → FieldType := fun k => match k with
  | 0 => .long
  | 1 => .long
  | 2 => .int
  | 3 => .boolean
  | 4 => .int
  | 5 => .int
  | 6 => .int
  | _ => .int
set_option maxRecDepth 20000 in
theorem xNm6 : ∀ a, a < 8 → ∀ b, b < 8 → a ≠ b → (xF6 a).2.1 ≠ (xF6 b).2.1 := by decide +kernel
set_option maxRecDepth 20000 in
theorem xTo6 : ∀ k, k < 8 → parseFieldDescriptor (xF6 k).2.2.1 = some (xT6 k) := by decide +kernel
def xF7 : u_T := fun k => match k with
  | 0 => ("CentrifugeUnit$Sensors", "tachoTells", "I", false)
  | 1 => ("CentrifugeUnit$Sensors", "commutatorTells", "I", false)
  | 2 => ("CentrifugeUnit$Sensors", "tachoSpeed", "I", false)
  | 3 => ("CentrifugeUnit$Sensors", "commutatorSpeed", "I", false)
  | 4 => ("CentrifugeUnit$Sensors", "used", "I", false)
  | _ => ("CentrifugeUnit$Sensors", "lesser", "I", false)
def xT7 : Nat → FieldType := fun k => match k with
  | 0 => .int
  | 1 => .int
  | 2 => .int
  | 3 => .int
  | 4 => .int
  | _ => .int
set_option maxRecDepth 20000 in
theorem xNm7 : ∀ a, a < 6 → ∀ b, b < 6 → a ≠ b → (xF7 a).2.1 ≠ (xF7 b).2.1 := by decide +kernel
set_option maxRecDepth 20000 in
theorem xTo7 : ∀ k, k < 6 → parseFieldDescriptor (xF7 k).2.2.1 = some (xT7 k) := by decide +kernel
def xF8 : u_T := fun k => match k with
  | 0 => ("CentrifugeUnit$Watch", "shaking", "I", false)
  | 1 => ("CentrifugeUnit$Watch", "restRow", "I", false)
  | 2 => ("CentrifugeUnit$Watch", "shakingRow", "I", false)
  | _ => ("CentrifugeUnit$Watch", "differingRow", "I", false)
def xT8 : Nat → FieldType := fun k => match k with
  | 0 => .int
  | 1 => .int
  | 2 => .int
  | _ => .int
set_option maxRecDepth 20000 in
theorem xNm8 : ∀ a, a < 4 → ∀ b, b < 4 → a ≠ b → (xF8 a).2.1 ≠ (xF8 b).2.1 := by decide +kernel
set_option maxRecDepth 20000 in
theorem xTo8 : ∀ k, k < 4 → parseFieldDescriptor (xF8 k).2.2.1 = some (xT8 k) := by decide +kernel
def xF9 : u_T := fun k => match k with
  | 0 => ("CentrifugeUnit", "rotors", "LCentrifugeUnit$Rotors;", true)
  | 1 => ("CentrifugeUnit", "program", "LCentrifugeUnit$Program;", true)
  | 2 => ("CentrifugeUnit", "model", "LCentrifugeUnit$Model;", true)
  | 3 => ("CentrifugeUnit", "sensors", "LCentrifugeUnit$Sensors;", true)
  | 4 => ("CentrifugeUnit", "lid", "LCentrifugeUnit$Lid;", true)
  | 5 => ("CentrifugeUnit", "records", "LCentrifugeUnit$Records;", true)
  | _ => ("CentrifugeUnit", "control", "LCentrifugeUnit$Control;", true)
def xT9 : Nat → FieldType := fun k => match k with
  | 0 => .object "CentrifugeUnit$Rotors"
  | 1 => .object "CentrifugeUnit$Program"
  | 2 => .object "CentrifugeUnit$Model"
  | 3 => .object "CentrifugeUnit$Sensors"
  | 4 => .object "CentrifugeUnit$Lid"
  | 5 => .object "CentrifugeUnit$Records"
  | _ => .object "CentrifugeUnit$Control"
set_option maxRecDepth 20000 in
theorem xNm9 : ∀ a, a < 7 → ∀ b, b < 7 → a ≠ b → (xF9 a).2.1 ≠ (xF9 b).2.1 := by decide +kernel
set_option maxRecDepth 20000 in
theorem xTo9 : ∀ k, k < 7 → parseFieldDescriptor (xF9 k).2.2.1 = some (xT9 k) := by decide +kernel
def xF10 : u_T := fun k => match k with
  | 0 => ("CentrifugeUnitModel", "thrown", "I", false)
  | 1 => ("CentrifugeUnitModel", "told", "[Z", true)
  | 2 => ("CentrifugeUnitModel", "pattern", "[I", true)
  | 3 => ("CentrifugeUnitModel", "radius", "[I", true)
  | 4 => ("CentrifugeUnitModel", "limit", "[I", true)
  | 5 => ("CentrifugeUnitModel", "inertia", "[I", true)
  | 6 => ("CentrifugeUnitModel", "inside", "I", false)
  | 7 => ("CentrifugeUnitModel", "kind", "[I", true)
  | 8 => ("CentrifugeUnitModel", "goalOf", "[I", true)
  | 9 => ("CentrifugeUnitModel", "slope", "[I", true)
  | 10 => ("CentrifugeUnitModel", "segments", "I", false)
  | 11 => ("CentrifugeUnitModel", "speed", "J", false)
  | 12 => ("CentrifugeUnitModel", "drive", "I", false)
  | 13 => ("CentrifugeUnitModel", "brake", "I", false)
  | 14 => ("CentrifugeUnitModel", "fed", "Z", false)
  | 15 => ("CentrifugeUnitModel", "coil", "I", false)
  | 16 => ("CentrifugeUnitModel", "tacho", "I", false)
  | 17 => ("CentrifugeUnitModel", "counter", "I", false)
  | 18 => ("CentrifugeUnitModel", "first", "J", false)
  | 19 => ("CentrifugeUnitModel", "second", "J", false)
  | 20 => ("CentrifugeUnitModel", "used", "J", false)
  | 21 => ("CentrifugeUnitModel", "power", "Z", false)
  | 22 => ("CentrifugeUnitModel", "state", "I", false)
  | 23 => ("CentrifugeUnitModel", "reason", "I", false)
  | 24 => ("CentrifugeUnitModel", "segment", "I", false)
  | 25 => ("CentrifugeUnitModel", "passed", "I", false)
  | 26 => ("CentrifugeUnitModel", "goal", "J", false)
  | 27 => ("CentrifugeUnitModel", "dose", "J", false)
  | 28 => ("CentrifugeUnitModel", "sum", "J", false)
  | 29 => ("CentrifugeUnitModel", "any", "Z", false)
  | 30 => ("CentrifugeUnitModel", "firstPattern", "I", false)
  | 31 => ("CentrifugeUnitModel", "rotor", "I", false)
  | 32 => ("CentrifugeUnitModel", "wrongPattern", "Z", false)
  | 33 => ("CentrifugeUnitModel", "resting", "I", false)
  | 34 => ("CentrifugeUnitModel", "shaking", "I", false)
  | 35 => ("CentrifugeUnitModel", "apart", "I", false)
  | 36 => ("CentrifugeUnitModel", "contactA", "Z", false)
  | 37 => ("CentrifugeUnitModel", "contactB", "Z", false)
  | 38 => ("CentrifugeUnitModel", "level", "I", false)
  | 39 => ("CentrifugeUnitModel", "chamber", "I", false)
  | 40 => ("CentrifugeUnitModel", "greatest", "J", false)
  | 41 => ("CentrifugeUnitModel", "records", "I", false)
  | 42 => ("CentrifugeUnitModel", "reasonOf", "[J", true)
  | 43 => ("CentrifugeUnitModel", "doseOf", "[J", true)
  | _ => ("CentrifugeUnitModel", "greatestOf", "[J", true)
def xT10 : Nat → FieldType := fun k => match k with
  | 0 => .int
  | 1 => .array .boolean
  | 2 => .array .int
  | 3 => .array .int
  | 4 => .array .int
  | 5 => .array .int
  | 6 => .int
  | 7 => .array .int
  | 8 => .array .int
  | 9 => .array .int
  | 10 => .int
  | 11 => .long
  | 12 => .int
  | 13 => .int
  | 14 => .boolean
  | 15 => .int
  | 16 => .int
  | 17 => .int
  | 18 => .long
  | 19 => .long
  | 20 => .long
  | 21 => .boolean
  | 22 => .int
  | 23 => .int
  | 24 => .int
  | 25 => .int
  | 26 => .long
  | 27 => .long
  | 28 => .long
  | 29 => .boolean
  | 30 => .int
  | 31 => .int
  | 32 => .boolean
  | 33 => .int
  | 34 => .int
  | 35 => .int
  | 36 => .boolean
  | 37 => .boolean
  | 38 => .int
  | 39 => .int
  | 40 => .long
  | 41 => .int
  | 42 => .array .long
  | 43 => .array .long
  | _ => .array .long
set_option maxRecDepth 20000 in
theorem xNm10 : ∀ a, a < 45 → ∀ b, b < 45 → a ≠ b → (xF10 a).2.1 ≠ (xF10 b).2.1 := by decide +kernel
set_option maxRecDepth 20000 in
theorem xTo10 : ∀ k, k < 45 → parseFieldDescriptor (xF10 k).2.2.1 = some (xT10 k) := by decide +kernel
abbrev xcl : List vw_C := [("CentrifugeUnit$Control", xF0, 14), ("CentrifugeUnit$Lid", xF1, 3), ("CentrifugeUnit$Model", xF2, 1), ("CentrifugeUnit$Program", xF3, 4), ("CentrifugeUnit$Records", xF4, 4), ("CentrifugeUnit$Rotors", xF5, 5), ("CentrifugeUnit$Run", xF6, 8), ("CentrifugeUnit$Sensors", xF7, 6), ("CentrifugeUnit$Watch", xF8, 4), ("CentrifugeUnit", xF9, 7), ("CentrifugeUnitModel", xF10, 45)]
abbrev xc0 (Z : Nat → ClassId) (A : Nat → Nat) (M : XM) : va_E := .inr (9, [.ref (A 1), .ref (A 6), .ref (A 10), .ref (A 11), .ref (A 12), .ref (A 13), .ref (A 17)])
abbrev xc1 (Z : Nat → ClassId) (A : Nat → Nat) (M : XM) : va_E := .inr (5, [.ref (A 2), .ref (A 3), .ref (A 4), .ref (A 5), .int (M.1 0)])
abbrev xc2 (Z : Nat → ClassId) (A : Nat → Nat) (M : XM) : va_E := .inl (Z 0, 4, .inl (M.2.2.1 2))
abbrev xc3 (Z : Nat → ClassId) (A : Nat → Nat) (M : XM) : va_E := .inl (Z 0, 4, .inl (M.2.2.1 3))
abbrev xc4 (Z : Nat → ClassId) (A : Nat → Nat) (M : XM) : va_E := .inl (Z 0, 4, .inl (M.2.2.1 4))
abbrev xc5 (Z : Nat → ClassId) (A : Nat → Nat) (M : XM) : va_E := .inl (Z 0, 4, .inl (M.2.2.1 5))
abbrev xc6 (Z : Nat → ClassId) (A : Nat → Nat) (M : XM) : va_E := .inr (3, [.ref (A 7), .ref (A 8), .ref (A 9), .int (M.1 1)])
abbrev xc7 (Z : Nat → ClassId) (A : Nat → Nat) (M : XM) : va_E := .inl (Z 0, 12, .inl (M.2.2.1 7))
abbrev xc8 (Z : Nat → ClassId) (A : Nat → Nat) (M : XM) : va_E := .inl (Z 0, 12, .inl (M.2.2.1 8))
abbrev xc9 (Z : Nat → ClassId) (A : Nat → Nat) (M : XM) : va_E := .inl (Z 0, 12, .inl (M.2.2.1 9))
abbrev xc10 (Z : Nat → ClassId) (A : Nat → Nat) (M : XM) : va_E := .inr (2, [.long (M.2.1 0)])
abbrev xc11 (Z : Nat → ClassId) (A : Nat → Nat) (M : XM) : va_E := .inr (7, [.int (M.1 2), .int (M.1 3), .int (M.1 4), .int (M.1 5), .int (M.1 6), .int (M.1 7)])
abbrev xc12 (Z : Nat → ClassId) (A : Nat → Nat) (M : XM) : va_E := .inr (1, [.int (M.1 8), .int (M.1 9), .int (M.1 10)])
abbrev xc13 (Z : Nat → ClassId) (A : Nat → Nat) (M : XM) : va_E := .inr (4, [.ref (A 14), .ref (A 15), .ref (A 16), .int (M.1 11)])
abbrev xc14 (Z : Nat → ClassId) (A : Nat → Nat) (M : XM) : va_E := .inl (Z 0, 16, .inl (M.2.2.1 14))
abbrev xc15 (Z : Nat → ClassId) (A : Nat → Nat) (M : XM) : va_E := .inl (Z 1, 16, .inr (.inl (M.2.2.2 15)))
abbrev xc16 (Z : Nat → ClassId) (A : Nat → Nat) (M : XM) : va_E := .inl (Z 0, 16, .inl (M.2.2.1 16))
abbrev xc17 (Z : Nat → ClassId) (A : Nat → Nat) (M : XM) : va_E := .inr (0, [.ref (A 1), .ref (A 6), .ref (A 11), .ref (A 12), .ref (A 13), .ref (A 18), .ref (A 19), .int (M.1 12), .int (M.1 13), .int (M.1 14), .int (M.1 15), .int (M.1 16), .int (M.1 17), .int (M.1 18)])
abbrev xc18 (Z : Nat → ClassId) (A : Nat → Nat) (M : XM) : va_E := .inr (8, [.int (M.1 19), .int (M.1 20), .int (M.1 21), .int (M.1 22)])
abbrev xc19 (Z : Nat → ClassId) (A : Nat → Nat) (M : XM) : va_E := .inr (6, [.long (M.2.1 1), .long (M.2.1 2), .int (M.1 23), .int (M.1 24), .int (M.1 25), .int (M.1 26), .int (M.1 27), .int (M.1 28)])
abbrev xc20 (Z : Nat → ClassId) (A : Nat → Nat) (M : XM) : va_E := .inr (10, [.int (M.1 100), .ref (A 21), .ref (A 22), .ref (A 23), .ref (A 24), .ref (A 25), .int (M.1 101), .ref (A 26), .ref (A 27), .ref (A 28), .int (M.1 102), .long (M.2.1 100), .int (M.1 103), .int (M.1 104), .int (M.1 105), .int (M.1 106), .int (M.1 107), .int (M.1 108), .long (M.2.1 101), .long (M.2.1 102), .long (M.2.1 103), .int (M.1 109), .int (M.1 110), .int (M.1 111), .int (M.1 112), .int (M.1 113), .long (M.2.1 104), .long (M.2.1 105), .long (M.2.1 106), .int (M.1 114), .int (M.1 115), .int (M.1 116), .int (M.1 117), .int (M.1 118), .int (M.1 119), .int (M.1 120), .int (M.1 121), .int (M.1 122), .int (M.1 123), .int (M.1 124), .long (M.2.1 107), .int (M.1 125), .ref (A 29), .ref (A 30), .ref (A 31)])
abbrev xc21 (Z : Nat → ClassId) (A : Nat → Nat) (M : XM) : va_E := .inl (Z 2, 4, .inl (M.2.2.1 21))
abbrev xc22 (Z : Nat → ClassId) (A : Nat → Nat) (M : XM) : va_E := .inl (Z 0, 4, .inl (M.2.2.1 22))
abbrev xc23 (Z : Nat → ClassId) (A : Nat → Nat) (M : XM) : va_E := .inl (Z 0, 4, .inl (M.2.2.1 23))
abbrev xc24 (Z : Nat → ClassId) (A : Nat → Nat) (M : XM) : va_E := .inl (Z 0, 4, .inl (M.2.2.1 24))
abbrev xc25 (Z : Nat → ClassId) (A : Nat → Nat) (M : XM) : va_E := .inl (Z 0, 4, .inl (M.2.2.1 25))
abbrev xc26 (Z : Nat → ClassId) (A : Nat → Nat) (M : XM) : va_E := .inl (Z 0, 12, .inl (M.2.2.1 26))
abbrev xc27 (Z : Nat → ClassId) (A : Nat → Nat) (M : XM) : va_E := .inl (Z 0, 12, .inl (M.2.2.1 27))
abbrev xc28 (Z : Nat → ClassId) (A : Nat → Nat) (M : XM) : va_E := .inl (Z 0, 12, .inl (M.2.2.1 28))
abbrev xc29 (Z : Nat → ClassId) (A : Nat → Nat) (M : XM) : va_E := .inl (Z 1, 16, .inr (.inl (M.2.2.2 29)))
abbrev xc30 (Z : Nat → ClassId) (A : Nat → Nat) (M : XM) : va_E := .inl (Z 1, 16, .inr (.inl (M.2.2.2 30)))
abbrev xc31 (Z : Nat → ClassId) (A : Nat → Nat) (M : XM) : va_E := .inl (Z 1, 16, .inr (.inl (M.2.2.2 31)))
abbrev xc32 (Z : Nat → ClassId) (A : Nat → Nat) (M : XM) : va_E := .inl (Z 1, 1, .inr (.inl (M.2.2.2 32)))
set_option maxRecDepth 20000 in
theorem tp_1 : Cond.selects "CentrifugeUnit$Control" ⟨"CentrifugeUnit$Control", "readSensors", "(LCentrifugeUnit$Model;)V"⟩ ⟨"CentrifugeUnit$Control", "readSensors", "(LCentrifugeUnit$Model;)V"⟩ ∈ xw := xw_of (List.mem_append_left _ (List.mem_of_getElem? (i := 1) (by decide +kernel))) rfl
set_option maxRecDepth 20000 in
theorem tp_2 : Cond.selects "CentrifugeUnit$Control" ⟨"CentrifugeUnit$Control", "turning", "()Z"⟩ ⟨"CentrifugeUnit$Control", "turning", "()Z"⟩ ∈ xw := xw_of (List.mem_append_left _ (List.mem_of_getElem? (i := 2) (by decide +kernel))) rfl
set_option maxRecDepth 20000 in
theorem tp_3 : Cond.selects "CentrifugeUnit$Control" ⟨"CentrifugeUnit$Control", "lookForFault", "()V"⟩ ⟨"CentrifugeUnit$Control", "lookForFault", "()V"⟩ ∈ xw := xw_of (List.mem_append_left _ (List.mem_of_getElem? (i := 3) (by decide +kernel))) rfl
set_option maxRecDepth 20000 in
theorem tp_4 : Cond.selects "CentrifugeUnit$Control" ⟨"CentrifugeUnit$Control", "faultReason", "()I"⟩ ⟨"CentrifugeUnit$Control", "faultReason", "()I"⟩ ∈ xw := xw_of (List.mem_append_left _ (List.mem_of_getElem? (i := 4) (by decide +kernel))) rfl
set_option maxRecDepth 20000 in
theorem tp_5 : Cond.selects "CentrifugeUnit$Control" ⟨"CentrifugeUnit$Control", "addDose", "()V"⟩ ⟨"CentrifugeUnit$Control", "addDose", "()V"⟩ ∈ xw := xw_of (List.mem_append_left _ (List.mem_of_getElem? (i := 5) (by decide +kernel))) rfl
set_option maxRecDepth 20000 in
theorem tp_6 : Cond.selects "CentrifugeUnit$Control" ⟨"CentrifugeUnit$Control", "followProgram", "()V"⟩ ⟨"CentrifugeUnit$Control", "followProgram", "()V"⟩ ∈ xw := xw_of (List.mem_append_left _ (List.mem_of_getElem? (i := 6) (by decide +kernel))) rfl
set_option maxRecDepth 20000 in
theorem tp_7 : Cond.selects "CentrifugeUnit$Control" ⟨"CentrifugeUnit$Control", "segmentIsThrough", "(I)Z"⟩ ⟨"CentrifugeUnit$Control", "segmentIsThrough", "(I)Z"⟩ ∈ xw := xw_of (List.mem_append_left _ (List.mem_of_getElem? (i := 7) (by decide +kernel))) rfl
set_option maxRecDepth 20000 in
theorem tp_8 : Cond.selects "CentrifugeUnit$Control" ⟨"CentrifugeUnit$Control", "ramp", "(II)Z"⟩ ⟨"CentrifugeUnit$Control", "ramp", "(II)Z"⟩ ∈ xw := xw_of (List.mem_append_left _ (List.mem_of_getElem? (i := 8) (by decide +kernel))) rfl
set_option maxRecDepth 20000 in
theorem tp_9 : Cond.selects "CentrifugeUnit$Control" ⟨"CentrifugeUnit$Control", "keepToGoal", "()V"⟩ ⟨"CentrifugeUnit$Control", "keepToGoal", "()V"⟩ ∈ xw := xw_of (List.mem_append_left _ (List.mem_of_getElem? (i := 9) (by decide +kernel))) rfl
set_option maxRecDepth 20000 in
theorem tp_10 : Cond.selects "CentrifugeUnit$Control" ⟨"CentrifugeUnit$Control", "slowDown", "(II)Z"⟩ ⟨"CentrifugeUnit$Control", "slowDown", "(II)Z"⟩ ∈ xw := xw_of (List.mem_append_left _ (List.mem_of_getElem? (i := 10) (by decide +kernel))) rfl
set_option maxRecDepth 20000 in
theorem tp_11 : Cond.selects "CentrifugeUnit$Control" ⟨"CentrifugeUnit$Control", "comeToRest", "()V"⟩ ⟨"CentrifugeUnit$Control", "comeToRest", "()V"⟩ ∈ xw := xw_of (List.mem_append_left _ (List.mem_of_getElem? (i := 11) (by decide +kernel))) rfl
set_option maxRecDepth 20000 in
theorem tw_1 : Cond.initialized "CentrifugeUnit" ∈ xw := xw_of (List.mem_append_right _ (List.mem_of_getElem? (i := 1) (by decide +kernel))) rfl
set_option maxRecDepth 20000 in
theorem tw_2 : Cond.initialized "CentrifugeUnit$Rotors" ∈ xw := xw_of (List.mem_append_right _ (List.mem_of_getElem? (i := 2) (by decide +kernel))) rfl
set_option maxRecDepth 20000 in
theorem tw_4 : Cond.initialized "CentrifugeUnit$Program" ∈ xw := xw_of (List.mem_append_right _ (List.mem_of_getElem? (i := 4) (by decide +kernel))) rfl
set_option maxRecDepth 20000 in
theorem tw_5 : Cond.initialized "CentrifugeUnit$Model" ∈ xw := xw_of (List.mem_append_right _ (List.mem_of_getElem? (i := 5) (by decide +kernel))) rfl
set_option maxRecDepth 20000 in
theorem tw_6 : Cond.initialized "CentrifugeUnit$Sensors" ∈ xw := xw_of (List.mem_append_right _ (List.mem_of_getElem? (i := 6) (by decide +kernel))) rfl
set_option maxRecDepth 20000 in
theorem tw_7 : Cond.initialized "CentrifugeUnit$Lid" ∈ xw := xw_of (List.mem_append_right _ (List.mem_of_getElem? (i := 7) (by decide +kernel))) rfl
set_option maxRecDepth 20000 in
theorem tw_8 : Cond.initialized "CentrifugeUnit$Records" ∈ xw := xw_of (List.mem_append_right _ (List.mem_of_getElem? (i := 8) (by decide +kernel))) rfl
set_option maxRecDepth 20000 in
theorem tw_9 : Cond.initialized "CentrifugeUnit$Control" ∈ xw := xw_of (List.mem_append_right _ (List.mem_of_getElem? (i := 9) (by decide +kernel))) rfl
set_option maxRecDepth 20000 in
theorem tw_10 : Cond.initialized "CentrifugeUnit$Watch" ∈ xw := xw_of (List.mem_append_right _ (List.mem_of_getElem? (i := 10) (by decide +kernel))) rfl
set_option maxRecDepth 20000 in
theorem tw_11 : Cond.initialized "CentrifugeUnit$Run" ∈ xw := xw_of (List.mem_append_right _ (List.mem_of_getElem? (i := 11) (by decide +kernel))) rfl
set_option maxRecDepth 20000 in
theorem tw_18 : Cond.initialized "java/lang/Math" ∈ xw := xw_of (List.mem_append_right _ (List.mem_of_getElem? (i := 18) (by decide +kernel))) rfl
set_option maxRecDepth 20000 in
theorem tw_37 : Cond.fieldLink "CentrifugeUnit$Rotors" 11 "CentrifugeUnit$Rotors" "patterns" "[I" ∈ xw := xw_of (List.mem_append_right _ (List.mem_of_getElem? (i := 37) (by decide +kernel))) rfl
set_option maxRecDepth 20000 in
theorem tw_38 : Cond.fieldLink "CentrifugeUnit$Rotors" 15 "CentrifugeUnit$Rotors" "radii" "[I" ∈ xw := xw_of (List.mem_append_right _ (List.mem_of_getElem? (i := 38) (by decide +kernel))) rfl
set_option maxRecDepth 20000 in
theorem tw_39 : Cond.fieldLink "CentrifugeUnit$Rotors" 18 "CentrifugeUnit$Rotors" "limits" "[I" ∈ xw := xw_of (List.mem_append_right _ (List.mem_of_getElem? (i := 39) (by decide +kernel))) rfl
set_option maxRecDepth 20000 in
theorem tw_40 : Cond.fieldLink "CentrifugeUnit$Rotors" 21 "CentrifugeUnit$Rotors" "inertias" "[I" ∈ xw := xw_of (List.mem_append_right _ (List.mem_of_getElem? (i := 40) (by decide +kernel))) rfl
set_option maxRecDepth 20000 in
theorem tw_41 : Cond.fieldLink "CentrifugeUnit$Rotors" 24 "CentrifugeUnit$Rotors" "in" "I" ∈ xw := xw_of (List.mem_append_right _ (List.mem_of_getElem? (i := 41) (by decide +kernel))) rfl
set_option maxRecDepth 20000 in
theorem tw_43 : Cond.laysFinal "CentrifugeUnit$Rotors" "CentrifugeUnit$Rotors" "patterns" "[I" ∈ xw := xw_of (List.mem_append_right _ (List.mem_of_getElem? (i := 43) (by decide +kernel))) rfl
set_option maxRecDepth 20000 in
theorem tw_45 : Cond.laysFinal "CentrifugeUnit$Rotors" "CentrifugeUnit$Rotors" "radii" "[I" ∈ xw := xw_of (List.mem_append_right _ (List.mem_of_getElem? (i := 45) (by decide +kernel))) rfl
set_option maxRecDepth 20000 in
theorem tw_47 : Cond.laysFinal "CentrifugeUnit$Rotors" "CentrifugeUnit$Rotors" "limits" "[I" ∈ xw := xw_of (List.mem_append_right _ (List.mem_of_getElem? (i := 47) (by decide +kernel))) rfl
set_option maxRecDepth 20000 in
theorem tw_49 : Cond.laysFinal "CentrifugeUnit$Rotors" "CentrifugeUnit$Rotors" "inertias" "[I" ∈ xw := xw_of (List.mem_append_right _ (List.mem_of_getElem? (i := 49) (by decide +kernel))) rfl
set_option maxRecDepth 20000 in
theorem tw_51 : Cond.lays "CentrifugeUnit$Rotors" "CentrifugeUnit$Rotors" "in" "I" ∈ xw := xw_of (List.mem_append_right _ (List.mem_of_getElem? (i := 51) (by decide +kernel))) rfl
set_option maxRecDepth 20000 in
theorem tw_61 : Cond.fieldLink "CentrifugeUnit$Program" 9 "CentrifugeUnit$Program" "kinds" "[I" ∈ xw := xw_of (List.mem_append_right _ (List.mem_of_getElem? (i := 61) (by decide +kernel))) rfl
set_option maxRecDepth 20000 in
theorem tw_62 : Cond.fieldLink "CentrifugeUnit$Control" 193 "CentrifugeUnit$Program" "kinds" "[I" ∈ xw := xw_of (List.mem_append_right _ (List.mem_of_getElem? (i := 62) (by decide +kernel))) rfl
set_option maxRecDepth 20000 in
theorem tw_63 : Cond.fieldLink "CentrifugeUnit$Program" 13 "CentrifugeUnit$Program" "firsts" "[I" ∈ xw := xw_of (List.mem_append_right _ (List.mem_of_getElem? (i := 63) (by decide +kernel))) rfl
set_option maxRecDepth 20000 in
theorem tw_64 : Cond.fieldLink "CentrifugeUnit$Control" 183 "CentrifugeUnit$Program" "firsts" "[I" ∈ xw := xw_of (List.mem_append_right _ (List.mem_of_getElem? (i := 64) (by decide +kernel))) rfl
set_option maxRecDepth 20000 in
theorem tw_65 : Cond.fieldLink "CentrifugeUnit$Program" 16 "CentrifugeUnit$Program" "seconds" "[I" ∈ xw := xw_of (List.mem_append_right _ (List.mem_of_getElem? (i := 65) (by decide +kernel))) rfl
set_option maxRecDepth 20000 in
theorem tw_66 : Cond.fieldLink "CentrifugeUnit$Control" 187 "CentrifugeUnit$Program" "seconds" "[I" ∈ xw := xw_of (List.mem_append_right _ (List.mem_of_getElem? (i := 66) (by decide +kernel))) rfl
set_option maxRecDepth 20000 in
theorem tw_67 : Cond.fieldLink "CentrifugeUnit$Program" 27 "CentrifugeUnit$Program" "count" "I" ∈ xw := xw_of (List.mem_append_right _ (List.mem_of_getElem? (i := 67) (by decide +kernel))) rfl
set_option maxRecDepth 20000 in
theorem tw_69 : Cond.laysFinal "CentrifugeUnit$Program" "CentrifugeUnit$Program" "kinds" "[I" ∈ xw := xw_of (List.mem_append_right _ (List.mem_of_getElem? (i := 69) (by decide +kernel))) rfl
set_option maxRecDepth 20000 in
theorem tw_71 : Cond.laysFinal "CentrifugeUnit$Program" "CentrifugeUnit$Program" "firsts" "[I" ∈ xw := xw_of (List.mem_append_right _ (List.mem_of_getElem? (i := 71) (by decide +kernel))) rfl
set_option maxRecDepth 20000 in
theorem tw_73 : Cond.laysFinal "CentrifugeUnit$Program" "CentrifugeUnit$Program" "seconds" "[I" ∈ xw := xw_of (List.mem_append_right _ (List.mem_of_getElem? (i := 73) (by decide +kernel))) rfl
set_option maxRecDepth 20000 in
theorem tw_75 : Cond.lays "CentrifugeUnit$Program" "CentrifugeUnit$Program" "count" "I" ∈ xw := xw_of (List.mem_append_right _ (List.mem_of_getElem? (i := 75) (by decide +kernel))) rfl
set_option maxRecDepth 20000 in
theorem tw_84 : Cond.fieldLink "CentrifugeUnit$Model" 13 "CentrifugeUnit$Model" "speed" "J" ∈ xw := xw_of (List.mem_append_right _ (List.mem_of_getElem? (i := 84) (by decide +kernel))) rfl
set_option maxRecDepth 20000 in
theorem tw_86 : Cond.lays "CentrifugeUnit$Model" "CentrifugeUnit$Model" "speed" "J" ∈ xw := xw_of (List.mem_append_right _ (List.mem_of_getElem? (i := 86) (by decide +kernel))) rfl
set_option maxRecDepth 20000 in
theorem tw_95 : Cond.fieldLink "CentrifugeUnit$Sensors" 9 "CentrifugeUnit$Sensors" "tachoTells" "I" ∈ xw := xw_of (List.mem_append_right _ (List.mem_of_getElem? (i := 95) (by decide +kernel))) rfl
set_option maxRecDepth 20000 in
theorem tw_97 : Cond.fieldLink "CentrifugeUnit$Sensors" 13 "CentrifugeUnit$Sensors" "commutatorTells" "I" ∈ xw := xw_of (List.mem_append_right _ (List.mem_of_getElem? (i := 97) (by decide +kernel))) rfl
set_option maxRecDepth 20000 in
theorem tw_99 : Cond.fieldLink "CentrifugeUnit$Sensors" 35 "CentrifugeUnit$Sensors" "tachoSpeed" "I" ∈ xw := xw_of (List.mem_append_right _ (List.mem_of_getElem? (i := 99) (by decide +kernel))) rfl
set_option maxRecDepth 20000 in
theorem tw_101 : Cond.fieldLink "CentrifugeUnit$Sensors" 40 "CentrifugeUnit$Sensors" "commutatorSpeed" "I" ∈ xw := xw_of (List.mem_append_right _ (List.mem_of_getElem? (i := 101) (by decide +kernel))) rfl
set_option maxRecDepth 20000 in
theorem tw_103 : Cond.fieldLink "CentrifugeUnit$Watch" 7 "CentrifugeUnit$Sensors" "used" "I" ∈ xw := xw_of (List.mem_append_right _ (List.mem_of_getElem? (i := 103) (by decide +kernel))) rfl
set_option maxRecDepth 20000 in
theorem tw_104 : Cond.fieldLink "CentrifugeUnit$Sensors" 47 "CentrifugeUnit$Sensors" "used" "I" ∈ xw := xw_of (List.mem_append_right _ (List.mem_of_getElem? (i := 104) (by decide +kernel))) rfl
set_option maxRecDepth 20000 in
theorem tw_105 : Cond.fieldLink "CentrifugeUnit$Control" 105 "CentrifugeUnit$Sensors" "used" "I" ∈ xw := xw_of (List.mem_append_right _ (List.mem_of_getElem? (i := 105) (by decide +kernel))) rfl
set_option maxRecDepth 20000 in
theorem tw_107 : Cond.fieldLink "CentrifugeUnit$Watch" 13 "CentrifugeUnit$Sensors" "lesser" "I" ∈ xw := xw_of (List.mem_append_right _ (List.mem_of_getElem? (i := 107) (by decide +kernel))) rfl
set_option maxRecDepth 20000 in
theorem tw_108 : Cond.fieldLink "CentrifugeUnit$Sensors" 52 "CentrifugeUnit$Sensors" "lesser" "I" ∈ xw := xw_of (List.mem_append_right _ (List.mem_of_getElem? (i := 108) (by decide +kernel))) rfl
set_option maxRecDepth 20000 in
theorem tw_109 : Cond.fieldLink "CentrifugeUnit$Control" 155 "CentrifugeUnit$Sensors" "lesser" "I" ∈ xw := xw_of (List.mem_append_right _ (List.mem_of_getElem? (i := 109) (by decide +kernel))) rfl
set_option maxRecDepth 20000 in
theorem tw_110 : Cond.lays "CentrifugeUnit$Sensors" "CentrifugeUnit$Sensors" "tachoTells" "I" ∈ xw := xw_of (List.mem_append_right _ (List.mem_of_getElem? (i := 110) (by decide +kernel))) rfl
set_option maxRecDepth 20000 in
theorem tw_112 : Cond.lays "CentrifugeUnit$Sensors" "CentrifugeUnit$Sensors" "commutatorTells" "I" ∈ xw := xw_of (List.mem_append_right _ (List.mem_of_getElem? (i := 112) (by decide +kernel))) rfl
set_option maxRecDepth 20000 in
theorem tw_114 : Cond.lays "CentrifugeUnit$Sensors" "CentrifugeUnit$Sensors" "tachoSpeed" "I" ∈ xw := xw_of (List.mem_append_right _ (List.mem_of_getElem? (i := 114) (by decide +kernel))) rfl
set_option maxRecDepth 20000 in
theorem tw_116 : Cond.lays "CentrifugeUnit$Sensors" "CentrifugeUnit$Sensors" "commutatorSpeed" "I" ∈ xw := xw_of (List.mem_append_right _ (List.mem_of_getElem? (i := 116) (by decide +kernel))) rfl
set_option maxRecDepth 20000 in
theorem tw_118 : Cond.lays "CentrifugeUnit$Sensors" "CentrifugeUnit$Sensors" "used" "I" ∈ xw := xw_of (List.mem_append_right _ (List.mem_of_getElem? (i := 118) (by decide +kernel))) rfl
set_option maxRecDepth 20000 in
theorem tw_120 : Cond.lays "CentrifugeUnit$Sensors" "CentrifugeUnit$Sensors" "lesser" "I" ∈ xw := xw_of (List.mem_append_right _ (List.mem_of_getElem? (i := 120) (by decide +kernel))) rfl
set_option maxRecDepth 20000 in
theorem tw_129 : Cond.fieldLink "CentrifugeUnit$Lid" 7 "CentrifugeUnit$Lid" "contactA" "Z" ∈ xw := xw_of (List.mem_append_right _ (List.mem_of_getElem? (i := 129) (by decide +kernel))) rfl
set_option maxRecDepth 20000 in
theorem tw_131 : Cond.fieldLink "CentrifugeUnit$Lid" 13 "CentrifugeUnit$Lid" "contactB" "Z" ∈ xw := xw_of (List.mem_append_right _ (List.mem_of_getElem? (i := 131) (by decide +kernel))) rfl
set_option maxRecDepth 20000 in
theorem tw_133 : Cond.fieldLink "CentrifugeUnit$Lid" 16 "CentrifugeUnit$Lid" "coilTicksLeft" "I" ∈ xw := xw_of (List.mem_append_right _ (List.mem_of_getElem? (i := 133) (by decide +kernel))) rfl
set_option maxRecDepth 20000 in
theorem tw_134 : Cond.lays "CentrifugeUnit$Lid" "CentrifugeUnit$Lid" "contactA" "Z" ∈ xw := xw_of (List.mem_append_right _ (List.mem_of_getElem? (i := 134) (by decide +kernel))) rfl
set_option maxRecDepth 20000 in
theorem tw_136 : Cond.lays "CentrifugeUnit$Lid" "CentrifugeUnit$Lid" "contactB" "Z" ∈ xw := xw_of (List.mem_append_right _ (List.mem_of_getElem? (i := 136) (by decide +kernel))) rfl
set_option maxRecDepth 20000 in
theorem tw_138 : Cond.lays "CentrifugeUnit$Lid" "CentrifugeUnit$Lid" "coilTicksLeft" "I" ∈ xw := xw_of (List.mem_append_right _ (List.mem_of_getElem? (i := 138) (by decide +kernel))) rfl
set_option maxRecDepth 20000 in
theorem tw_147 : Cond.fieldLink "CentrifugeUnit$Records" 9 "CentrifugeUnit$Records" "reasons" "[I" ∈ xw := xw_of (List.mem_append_right _ (List.mem_of_getElem? (i := 147) (by decide +kernel))) rfl
set_option maxRecDepth 20000 in
theorem tw_148 : Cond.fieldLink "CentrifugeUnit$Records" 13 "CentrifugeUnit$Records" "doses" "[J" ∈ xw := xw_of (List.mem_append_right _ (List.mem_of_getElem? (i := 148) (by decide +kernel))) rfl
set_option maxRecDepth 20000 in
theorem tw_149 : Cond.fieldLink "CentrifugeUnit$Records" 17 "CentrifugeUnit$Records" "speeds" "[I" ∈ xw := xw_of (List.mem_append_right _ (List.mem_of_getElem? (i := 149) (by decide +kernel))) rfl
set_option maxRecDepth 20000 in
theorem tw_150 : Cond.fieldLink "CentrifugeUnit$Records" 20 "CentrifugeUnit$Records" "total" "I" ∈ xw := xw_of (List.mem_append_right _ (List.mem_of_getElem? (i := 150) (by decide +kernel))) rfl
set_option maxRecDepth 20000 in
theorem tw_152 : Cond.laysFinal "CentrifugeUnit$Records" "CentrifugeUnit$Records" "reasons" "[I" ∈ xw := xw_of (List.mem_append_right _ (List.mem_of_getElem? (i := 152) (by decide +kernel))) rfl
set_option maxRecDepth 20000 in
theorem tw_154 : Cond.laysFinal "CentrifugeUnit$Records" "CentrifugeUnit$Records" "doses" "[J" ∈ xw := xw_of (List.mem_append_right _ (List.mem_of_getElem? (i := 154) (by decide +kernel))) rfl
set_option maxRecDepth 20000 in
theorem tw_156 : Cond.laysFinal "CentrifugeUnit$Records" "CentrifugeUnit$Records" "speeds" "[I" ∈ xw := xw_of (List.mem_append_right _ (List.mem_of_getElem? (i := 156) (by decide +kernel))) rfl
set_option maxRecDepth 20000 in
theorem tw_158 : Cond.lays "CentrifugeUnit$Records" "CentrifugeUnit$Records" "total" "I" ∈ xw := xw_of (List.mem_append_right _ (List.mem_of_getElem? (i := 158) (by decide +kernel))) rfl
set_option maxRecDepth 20000 in
theorem tw_174 : Cond.fieldLink "CentrifugeUnit$Watch" 21 "CentrifugeUnit$Watch" "shaking" "I" ∈ xw := xw_of (List.mem_append_right _ (List.mem_of_getElem? (i := 174) (by decide +kernel))) rfl
set_option maxRecDepth 20000 in
theorem tw_176 : Cond.fieldLink "CentrifugeUnit$Watch" 16 "CentrifugeUnit$Watch" "restRow" "I" ∈ xw := xw_of (List.mem_append_right _ (List.mem_of_getElem? (i := 176) (by decide +kernel))) rfl
set_option maxRecDepth 20000 in
theorem tw_177 : Cond.fieldLink "CentrifugeUnit$Watch" 24 "CentrifugeUnit$Watch" "shakingRow" "I" ∈ xw := xw_of (List.mem_append_right _ (List.mem_of_getElem? (i := 177) (by decide +kernel))) rfl
set_option maxRecDepth 20000 in
theorem tw_178 : Cond.fieldLink "CentrifugeUnit$Watch" 27 "CentrifugeUnit$Watch" "differingRow" "I" ∈ xw := xw_of (List.mem_append_right _ (List.mem_of_getElem? (i := 178) (by decide +kernel))) rfl
set_option maxRecDepth 20000 in
theorem tw_179 : Cond.lays "CentrifugeUnit$Watch" "CentrifugeUnit$Watch" "shaking" "I" ∈ xw := xw_of (List.mem_append_right _ (List.mem_of_getElem? (i := 179) (by decide +kernel))) rfl
set_option maxRecDepth 20000 in
theorem tw_181 : Cond.lays "CentrifugeUnit$Watch" "CentrifugeUnit$Watch" "restRow" "I" ∈ xw := xw_of (List.mem_append_right _ (List.mem_of_getElem? (i := 181) (by decide +kernel))) rfl
set_option maxRecDepth 20000 in
theorem tw_183 : Cond.lays "CentrifugeUnit$Watch" "CentrifugeUnit$Watch" "shakingRow" "I" ∈ xw := xw_of (List.mem_append_right _ (List.mem_of_getElem? (i := 183) (by decide +kernel))) rfl
set_option maxRecDepth 20000 in
theorem tw_185 : Cond.lays "CentrifugeUnit$Watch" "CentrifugeUnit$Watch" "differingRow" "I" ∈ xw := xw_of (List.mem_append_right _ (List.mem_of_getElem? (i := 185) (by decide +kernel))) rfl
set_option maxRecDepth 20000 in
theorem tw_194 : Cond.fieldLink "CentrifugeUnit$Run" 15 "CentrifugeUnit$Run" "dose" "J" ∈ xw := xw_of (List.mem_append_right _ (List.mem_of_getElem? (i := 194) (by decide +kernel))) rfl
set_option maxRecDepth 20000 in
theorem tw_195 : Cond.fieldLink "CentrifugeUnit$Control" 158 "CentrifugeUnit$Run" "dose" "J" ∈ xw := xw_of (List.mem_append_right _ (List.mem_of_getElem? (i := 195) (by decide +kernel))) rfl
set_option maxRecDepth 20000 in
theorem tw_197 : Cond.fieldLink "CentrifugeUnit$Run" 19 "CentrifugeUnit$Run" "turns" "J" ∈ xw := xw_of (List.mem_append_right _ (List.mem_of_getElem? (i := 197) (by decide +kernel))) rfl
set_option maxRecDepth 20000 in
theorem tw_198 : Cond.fieldLink "CentrifugeUnit$Control" 108 "CentrifugeUnit$Run" "turns" "J" ∈ xw := xw_of (List.mem_append_right _ (List.mem_of_getElem? (i := 198) (by decide +kernel))) rfl
set_option maxRecDepth 20000 in
theorem tw_199 : Cond.fieldLink "CentrifugeUnit$Run" 9 "CentrifugeUnit$Run" "rotorRead" "I" ∈ xw := xw_of (List.mem_append_right _ (List.mem_of_getElem? (i := 199) (by decide +kernel))) rfl
set_option maxRecDepth 20000 in
theorem tw_200 : Cond.fieldLink "CentrifugeUnit$Control" 140 "CentrifugeUnit$Run" "rotorRead" "I" ∈ xw := xw_of (List.mem_append_right _ (List.mem_of_getElem? (i := 200) (by decide +kernel))) rfl
set_option maxRecDepth 20000 in
theorem tw_202 : Cond.fieldLink "CentrifugeUnit$Run" 22 "CentrifugeUnit$Run" "wrongPattern" "Z" ∈ xw := xw_of (List.mem_append_right _ (List.mem_of_getElem? (i := 202) (by decide +kernel))) rfl
set_option maxRecDepth 20000 in
theorem tw_203 : Cond.fieldLink "CentrifugeUnit$Control" 137 "CentrifugeUnit$Run" "wrongPattern" "Z" ∈ xw := xw_of (List.mem_append_right _ (List.mem_of_getElem? (i := 203) (by decide +kernel))) rfl
set_option maxRecDepth 20000 in
theorem tw_204 : Cond.fieldLink "CentrifugeUnit$Run" 26 "CentrifugeUnit$Run" "greatest" "I" ∈ xw := xw_of (List.mem_append_right _ (List.mem_of_getElem? (i := 204) (by decide +kernel))) rfl
set_option maxRecDepth 20000 in
theorem tw_205 : Cond.fieldLink "CentrifugeUnit$Control" 121 "CentrifugeUnit$Run" "greatest" "I" ∈ xw := xw_of (List.mem_append_right _ (List.mem_of_getElem? (i := 205) (by decide +kernel))) rfl
set_option maxRecDepth 20000 in
theorem tw_206 : Cond.fieldLink "CentrifugeUnit$Run" 29 "CentrifugeUnit$Run" "at" "I" ∈ xw := xw_of (List.mem_append_right _ (List.mem_of_getElem? (i := 206) (by decide +kernel))) rfl
set_option maxRecDepth 20000 in
theorem tw_207 : Cond.fieldLink "CentrifugeUnit$Control" 164 "CentrifugeUnit$Run" "at" "I" ∈ xw := xw_of (List.mem_append_right _ (List.mem_of_getElem? (i := 207) (by decide +kernel))) rfl
set_option maxRecDepth 20000 in
theorem tw_209 : Cond.fieldLink "CentrifugeUnit$Run" 32 "CentrifugeUnit$Run" "ticksInSegment" "I" ∈ xw := xw_of (List.mem_append_right _ (List.mem_of_getElem? (i := 209) (by decide +kernel))) rfl
set_option maxRecDepth 20000 in
theorem tw_210 : Cond.fieldLink "CentrifugeUnit$Control" 190 "CentrifugeUnit$Run" "ticksInSegment" "I" ∈ xw := xw_of (List.mem_append_right _ (List.mem_of_getElem? (i := 210) (by decide +kernel))) rfl
set_option maxRecDepth 20000 in
theorem tw_211 : Cond.fieldLink "CentrifugeUnit$Run" 35 "CentrifugeUnit$Run" "goal" "I" ∈ xw := xw_of (List.mem_append_right _ (List.mem_of_getElem? (i := 211) (by decide +kernel))) rfl
set_option maxRecDepth 20000 in
theorem tw_213 : Cond.fieldLink "CentrifugeUnit$Control" 208 "CentrifugeUnit$Run" "goal" "I" ∈ xw := xw_of (List.mem_append_right _ (List.mem_of_getElem? (i := 213) (by decide +kernel))) rfl
set_option maxRecDepth 20000 in
theorem tw_214 : Cond.lays "CentrifugeUnit$Run" "CentrifugeUnit$Run" "dose" "J" ∈ xw := xw_of (List.mem_append_right _ (List.mem_of_getElem? (i := 214) (by decide +kernel))) rfl
set_option maxRecDepth 20000 in
theorem tw_216 : Cond.lays "CentrifugeUnit$Run" "CentrifugeUnit$Run" "turns" "J" ∈ xw := xw_of (List.mem_append_right _ (List.mem_of_getElem? (i := 216) (by decide +kernel))) rfl
set_option maxRecDepth 20000 in
theorem tw_218 : Cond.lays "CentrifugeUnit$Run" "CentrifugeUnit$Run" "rotorRead" "I" ∈ xw := xw_of (List.mem_append_right _ (List.mem_of_getElem? (i := 218) (by decide +kernel))) rfl
set_option maxRecDepth 20000 in
theorem tw_220 : Cond.lays "CentrifugeUnit$Run" "CentrifugeUnit$Run" "wrongPattern" "Z" ∈ xw := xw_of (List.mem_append_right _ (List.mem_of_getElem? (i := 220) (by decide +kernel))) rfl
set_option maxRecDepth 20000 in
theorem tw_222 : Cond.lays "CentrifugeUnit$Run" "CentrifugeUnit$Run" "greatest" "I" ∈ xw := xw_of (List.mem_append_right _ (List.mem_of_getElem? (i := 222) (by decide +kernel))) rfl
set_option maxRecDepth 20000 in
theorem tw_224 : Cond.lays "CentrifugeUnit$Run" "CentrifugeUnit$Run" "at" "I" ∈ xw := xw_of (List.mem_append_right _ (List.mem_of_getElem? (i := 224) (by decide +kernel))) rfl
set_option maxRecDepth 20000 in
theorem tw_226 : Cond.lays "CentrifugeUnit$Run" "CentrifugeUnit$Run" "ticksInSegment" "I" ∈ xw := xw_of (List.mem_append_right _ (List.mem_of_getElem? (i := 226) (by decide +kernel))) rfl
set_option maxRecDepth 20000 in
theorem tw_228 : Cond.lays "CentrifugeUnit$Run" "CentrifugeUnit$Run" "goal" "I" ∈ xw := xw_of (List.mem_append_right _ (List.mem_of_getElem? (i := 228) (by decide +kernel))) rfl
set_option maxRecDepth 20000 in
theorem tw_231 : Cond.fieldLink "CentrifugeUnit$Control" 39 "CentrifugeUnit$Control" "rotors" "LCentrifugeUnit$Rotors;" ∈ xw := xw_of (List.mem_append_right _ (List.mem_of_getElem? (i := 231) (by decide +kernel))) rfl
set_option maxRecDepth 20000 in
theorem tw_232 : Cond.fieldLink "CentrifugeUnit$Control" 43 "CentrifugeUnit$Control" "program" "LCentrifugeUnit$Program;" ∈ xw := xw_of (List.mem_append_right _ (List.mem_of_getElem? (i := 232) (by decide +kernel))) rfl
set_option maxRecDepth 20000 in
theorem tw_233 : Cond.fieldLink "CentrifugeUnit$Control" 47 "CentrifugeUnit$Control" "sensors" "LCentrifugeUnit$Sensors;" ∈ xw := xw_of (List.mem_append_right _ (List.mem_of_getElem? (i := 233) (by decide +kernel))) rfl
set_option maxRecDepth 20000 in
theorem tw_234 : Cond.fieldLink "CentrifugeUnit$Control" 51 "CentrifugeUnit$Control" "lid" "LCentrifugeUnit$Lid;" ∈ xw := xw_of (List.mem_append_right _ (List.mem_of_getElem? (i := 234) (by decide +kernel))) rfl
set_option maxRecDepth 20000 in
theorem tw_235 : Cond.fieldLink "CentrifugeUnit$Control" 55 "CentrifugeUnit$Control" "records" "LCentrifugeUnit$Records;" ∈ xw := xw_of (List.mem_append_right _ (List.mem_of_getElem? (i := 235) (by decide +kernel))) rfl
set_option maxRecDepth 20000 in
theorem tw_236 : Cond.fieldLink "CentrifugeUnit$Control" 12 "CentrifugeUnit$Control" "watch" "LCentrifugeUnit$Watch;" ∈ xw := xw_of (List.mem_append_right _ (List.mem_of_getElem? (i := 236) (by decide +kernel))) rfl
set_option maxRecDepth 20000 in
theorem tw_238 : Cond.fieldLink "CentrifugeUnit$Control" 21 "CentrifugeUnit$Control" "run" "LCentrifugeUnit$Run;" ∈ xw := xw_of (List.mem_append_right _ (List.mem_of_getElem? (i := 238) (by decide +kernel))) rfl
set_option maxRecDepth 20000 in
theorem tw_240 : Cond.fieldLink "CentrifugeUnit$Control" 25 "CentrifugeUnit$Control" "powered" "Z" ∈ xw := xw_of (List.mem_append_right _ (List.mem_of_getElem? (i := 240) (by decide +kernel))) rfl
set_option maxRecDepth 20000 in
theorem tw_242 : Cond.fieldLink "CentrifugeUnit$Control" 29 "CentrifugeUnit$Control" "chamberCenti" "I" ∈ xw := xw_of (List.mem_append_right _ (List.mem_of_getElem? (i := 242) (by decide +kernel))) rfl
set_option maxRecDepth 20000 in
theorem tw_244 : Cond.fieldLink "CentrifugeUnit$Control" 33 "CentrifugeUnit$Control" "state" "I" ∈ xw := xw_of (List.mem_append_right _ (List.mem_of_getElem? (i := 244) (by decide +kernel))) rfl
set_option maxRecDepth 20000 in
theorem tw_246 : Cond.fieldLink "CentrifugeUnit$Control" 36 "CentrifugeUnit$Control" "reason" "I" ∈ xw := xw_of (List.mem_append_right _ (List.mem_of_getElem? (i := 246) (by decide +kernel))) rfl
set_option maxRecDepth 20000 in
theorem tw_248 : Cond.fieldLink "CentrifugeUnit$Control" 65 "CentrifugeUnit$Control" "drive" "I" ∈ xw := xw_of (List.mem_append_right _ (List.mem_of_getElem? (i := 248) (by decide +kernel))) rfl
set_option maxRecDepth 20000 in
theorem tw_250 : Cond.fieldLink "CentrifugeUnit$Control" 68 "CentrifugeUnit$Control" "brake" "I" ∈ xw := xw_of (List.mem_append_right _ (List.mem_of_getElem? (i := 250) (by decide +kernel))) rfl
set_option maxRecDepth 20000 in
theorem tw_252 : Cond.fieldLink "CentrifugeUnit$Control" 71 "CentrifugeUnit$Control" "coilFed" "Z" ∈ xw := xw_of (List.mem_append_right _ (List.mem_of_getElem? (i := 252) (by decide +kernel))) rfl
set_option maxRecDepth 20000 in
theorem tw_254 : Cond.laysFinal "CentrifugeUnit$Control" "CentrifugeUnit$Control" "rotors" "LCentrifugeUnit$Rotors;" ∈ xw := xw_of (List.mem_append_right _ (List.mem_of_getElem? (i := 254) (by decide +kernel))) rfl
set_option maxRecDepth 20000 in
theorem tw_256 : Cond.laysFinal "CentrifugeUnit$Control" "CentrifugeUnit$Control" "program" "LCentrifugeUnit$Program;" ∈ xw := xw_of (List.mem_append_right _ (List.mem_of_getElem? (i := 256) (by decide +kernel))) rfl
set_option maxRecDepth 20000 in
theorem tw_258 : Cond.laysFinal "CentrifugeUnit$Control" "CentrifugeUnit$Control" "sensors" "LCentrifugeUnit$Sensors;" ∈ xw := xw_of (List.mem_append_right _ (List.mem_of_getElem? (i := 258) (by decide +kernel))) rfl
set_option maxRecDepth 20000 in
theorem tw_260 : Cond.laysFinal "CentrifugeUnit$Control" "CentrifugeUnit$Control" "lid" "LCentrifugeUnit$Lid;" ∈ xw := xw_of (List.mem_append_right _ (List.mem_of_getElem? (i := 260) (by decide +kernel))) rfl
set_option maxRecDepth 20000 in
theorem tw_262 : Cond.laysFinal "CentrifugeUnit$Control" "CentrifugeUnit$Control" "records" "LCentrifugeUnit$Records;" ∈ xw := xw_of (List.mem_append_right _ (List.mem_of_getElem? (i := 262) (by decide +kernel))) rfl
set_option maxRecDepth 20000 in
theorem tw_264 : Cond.laysFinal "CentrifugeUnit$Control" "CentrifugeUnit$Control" "watch" "LCentrifugeUnit$Watch;" ∈ xw := xw_of (List.mem_append_right _ (List.mem_of_getElem? (i := 264) (by decide +kernel))) rfl
set_option maxRecDepth 20000 in
theorem tw_266 : Cond.laysFinal "CentrifugeUnit$Control" "CentrifugeUnit$Control" "run" "LCentrifugeUnit$Run;" ∈ xw := xw_of (List.mem_append_right _ (List.mem_of_getElem? (i := 266) (by decide +kernel))) rfl
set_option maxRecDepth 20000 in
theorem tw_268 : Cond.lays "CentrifugeUnit$Control" "CentrifugeUnit$Control" "powered" "Z" ∈ xw := xw_of (List.mem_append_right _ (List.mem_of_getElem? (i := 268) (by decide +kernel))) rfl
set_option maxRecDepth 20000 in
theorem tw_270 : Cond.lays "CentrifugeUnit$Control" "CentrifugeUnit$Control" "chamberCenti" "I" ∈ xw := xw_of (List.mem_append_right _ (List.mem_of_getElem? (i := 270) (by decide +kernel))) rfl
set_option maxRecDepth 20000 in
theorem tw_272 : Cond.lays "CentrifugeUnit$Control" "CentrifugeUnit$Control" "state" "I" ∈ xw := xw_of (List.mem_append_right _ (List.mem_of_getElem? (i := 272) (by decide +kernel))) rfl
set_option maxRecDepth 20000 in
theorem tw_274 : Cond.lays "CentrifugeUnit$Control" "CentrifugeUnit$Control" "reason" "I" ∈ xw := xw_of (List.mem_append_right _ (List.mem_of_getElem? (i := 274) (by decide +kernel))) rfl
set_option maxRecDepth 20000 in
theorem tw_276 : Cond.lays "CentrifugeUnit$Control" "CentrifugeUnit$Control" "drive" "I" ∈ xw := xw_of (List.mem_append_right _ (List.mem_of_getElem? (i := 276) (by decide +kernel))) rfl
set_option maxRecDepth 20000 in
theorem tw_278 : Cond.lays "CentrifugeUnit$Control" "CentrifugeUnit$Control" "brake" "I" ∈ xw := xw_of (List.mem_append_right _ (List.mem_of_getElem? (i := 278) (by decide +kernel))) rfl
set_option maxRecDepth 20000 in
theorem tw_280 : Cond.lays "CentrifugeUnit$Control" "CentrifugeUnit$Control" "coilFed" "Z" ∈ xw := xw_of (List.mem_append_right _ (List.mem_of_getElem? (i := 280) (by decide +kernel))) rfl
set_option maxRecDepth 20000 in
theorem tw_290 : Cond.laysFinal "CentrifugeUnit" "CentrifugeUnit" "rotors" "LCentrifugeUnit$Rotors;" ∈ xw := xw_of (List.mem_append_right _ (List.mem_of_getElem? (i := 290) (by decide +kernel))) rfl
set_option maxRecDepth 20000 in
theorem tw_292 : Cond.laysFinal "CentrifugeUnit" "CentrifugeUnit" "program" "LCentrifugeUnit$Program;" ∈ xw := xw_of (List.mem_append_right _ (List.mem_of_getElem? (i := 292) (by decide +kernel))) rfl
set_option maxRecDepth 20000 in
theorem tw_294 : Cond.laysFinal "CentrifugeUnit" "CentrifugeUnit" "model" "LCentrifugeUnit$Model;" ∈ xw := xw_of (List.mem_append_right _ (List.mem_of_getElem? (i := 294) (by decide +kernel))) rfl
set_option maxRecDepth 20000 in
theorem tw_296 : Cond.laysFinal "CentrifugeUnit" "CentrifugeUnit" "sensors" "LCentrifugeUnit$Sensors;" ∈ xw := xw_of (List.mem_append_right _ (List.mem_of_getElem? (i := 296) (by decide +kernel))) rfl
set_option maxRecDepth 20000 in
theorem tw_298 : Cond.laysFinal "CentrifugeUnit" "CentrifugeUnit" "lid" "LCentrifugeUnit$Lid;" ∈ xw := xw_of (List.mem_append_right _ (List.mem_of_getElem? (i := 298) (by decide +kernel))) rfl
set_option maxRecDepth 20000 in
theorem tw_300 : Cond.laysFinal "CentrifugeUnit" "CentrifugeUnit" "records" "LCentrifugeUnit$Records;" ∈ xw := xw_of (List.mem_append_right _ (List.mem_of_getElem? (i := 300) (by decide +kernel))) rfl
set_option maxRecDepth 20000 in
theorem tw_302 : Cond.laysFinal "CentrifugeUnit" "CentrifugeUnit" "control" "LCentrifugeUnit$Control;" ∈ xw := xw_of (List.mem_append_right _ (List.mem_of_getElem? (i := 302) (by decide +kernel))) rfl
set_option maxRecDepth 20000 in
theorem tw_319 : Cond.instanceMethod ⟨"CentrifugeUnit$Rotors", "radiusOf", "(I)I"⟩ ∈ xw := xw_of (List.mem_append_right _ (List.mem_of_getElem? (i := 319) (by decide +kernel))) rfl
set_option maxRecDepth 20000 in
theorem tw_320 : Cond.selects "CentrifugeUnit$Rotors" ⟨"CentrifugeUnit$Rotors", "radiusOf", "(I)I"⟩ ⟨"CentrifugeUnit$Rotors", "radiusOf", "(I)I"⟩ ∈ xw := xw_of (List.mem_append_right _ (List.mem_of_getElem? (i := 320) (by decide +kernel))) rfl
set_option maxRecDepth 20000 in
theorem tw_321 : Cond.code ⟨"CentrifugeUnit$Rotors", "radiusOf", "(I)I"⟩ prog_7_method_9_code 2 (Option.some Jvm.ClassFile.FieldType.int) ∈ xw := xw_of (List.mem_append_right _ (List.mem_of_getElem? (i := 321) (by decide +kernel))) rfl
set_option maxRecDepth 20000 in
theorem tw_322 : Cond.methodLink "CentrifugeUnit$Rotors" 38 ⟨"CentrifugeUnit$Rotors", "exists", "(I)Z"⟩ ∈ xw := xw_of (List.mem_append_right _ (List.mem_of_getElem? (i := 322) (by decide +kernel))) rfl
set_option maxRecDepth 20000 in
theorem tw_323 : Cond.static ⟨"CentrifugeUnit$Rotors", "exists", "(I)Z"⟩ ∈ xw := xw_of (List.mem_append_right _ (List.mem_of_getElem? (i := 323) (by decide +kernel))) rfl
set_option maxRecDepth 20000 in
theorem tw_324 : Cond.code ⟨"CentrifugeUnit$Rotors", "exists", "(I)Z"⟩ prog_7_method_2_code 1 (Option.some Jvm.ClassFile.FieldType.boolean) ∈ xw := xw_of (List.mem_append_right _ (List.mem_of_getElem? (i := 324) (by decide +kernel))) rfl
set_option maxRecDepth 20000 in
theorem tw_326 : Cond.static ⟨"CentrifugeUnit", "within", "(III)Z"⟩ ∈ xw := xw_of (List.mem_append_right _ (List.mem_of_getElem? (i := 326) (by decide +kernel))) rfl
set_option maxRecDepth 20000 in
theorem tw_327 : Cond.code ⟨"CentrifugeUnit", "within", "(III)Z"⟩ prog_1_method_19_code 3 (Option.some Jvm.ClassFile.FieldType.boolean) ∈ xw := xw_of (List.mem_append_right _ (List.mem_of_getElem? (i := 327) (by decide +kernel))) rfl
set_option maxRecDepth 20000 in
theorem tw_349 : Cond.methodLink "CentrifugeUnit$Rotors" 42 ⟨"CentrifugeUnit$Rotors", "withPattern", "(I)I"⟩ ∈ xw := xw_of (List.mem_append_right _ (List.mem_of_getElem? (i := 349) (by decide +kernel))) rfl
set_option maxRecDepth 20000 in
theorem tw_350 : Cond.instanceMethod ⟨"CentrifugeUnit$Rotors", "withPattern", "(I)I"⟩ ∈ xw := xw_of (List.mem_append_right _ (List.mem_of_getElem? (i := 350) (by decide +kernel))) rfl
set_option maxRecDepth 20000 in
theorem tw_351 : Cond.selects "CentrifugeUnit$Rotors" ⟨"CentrifugeUnit$Rotors", "withPattern", "(I)I"⟩ ⟨"CentrifugeUnit$Rotors", "withPattern", "(I)I"⟩ ∈ xw := xw_of (List.mem_append_right _ (List.mem_of_getElem? (i := 351) (by decide +kernel))) rfl
set_option maxRecDepth 20000 in
theorem tw_352 : Cond.code ⟨"CentrifugeUnit$Rotors", "withPattern", "(I)I"⟩ prog_7_method_6_code 3 (Option.some Jvm.ClassFile.FieldType.int) ∈ xw := xw_of (List.mem_append_right _ (List.mem_of_getElem? (i := 352) (by decide +kernel))) rfl
set_option maxRecDepth 20000 in
theorem tw_465 : Cond.constant "CentrifugeUnit$Program" 25 (100000 : Int32) ∈ xw := xw_of (List.mem_append_right _ (List.mem_of_getElem? (i := 465) (by decide +kernel))) rfl
set_option maxRecDepth 20000 in
theorem tw_466 : Cond.constant "CentrifugeUnit$Program" 26 (1000000 : Int32) ∈ xw := xw_of (List.mem_append_right _ (List.mem_of_getElem? (i := 466) (by decide +kernel))) rfl
set_option maxRecDepth 20000 in
theorem tw_469 : Cond.instanceMethod ⟨"CentrifugeUnit$Program", "full", "()Z"⟩ ∈ xw := xw_of (List.mem_append_right _ (List.mem_of_getElem? (i := 469) (by decide +kernel))) rfl
set_option maxRecDepth 20000 in
theorem tw_470 : Cond.selects "CentrifugeUnit$Program" ⟨"CentrifugeUnit$Program", "full", "()Z"⟩ ⟨"CentrifugeUnit$Program", "full", "()Z"⟩ ∈ xw := xw_of (List.mem_append_right _ (List.mem_of_getElem? (i := 470) (by decide +kernel))) rfl
set_option maxRecDepth 20000 in
theorem tw_471 : Cond.code ⟨"CentrifugeUnit$Program", "full", "()Z"⟩ prog_5_method_3_code 1 (Option.some Jvm.ClassFile.FieldType.boolean) ∈ xw := xw_of (List.mem_append_right _ (List.mem_of_getElem? (i := 471) (by decide +kernel))) rfl
set_option maxRecDepth 20000 in
theorem tw_477 : Cond.methodLink "CentrifugeUnit$Program" 31 ⟨"CentrifugeUnit$Program", "full", "()Z"⟩ ∈ xw := xw_of (List.mem_append_right _ (List.mem_of_getElem? (i := 477) (by decide +kernel))) rfl
set_option maxRecDepth 20000 in
theorem tw_486 : Cond.instanceMethod ⟨"CentrifugeUnit$Lid", "locked", "()Z"⟩ ∈ xw := xw_of (List.mem_append_right _ (List.mem_of_getElem? (i := 486) (by decide +kernel))) rfl
set_option maxRecDepth 20000 in
theorem tw_487 : Cond.selects "CentrifugeUnit$Lid" ⟨"CentrifugeUnit$Lid", "locked", "()Z"⟩ ⟨"CentrifugeUnit$Lid", "locked", "()Z"⟩ ∈ xw := xw_of (List.mem_append_right _ (List.mem_of_getElem? (i := 487) (by decide +kernel))) rfl
set_option maxRecDepth 20000 in
theorem tw_488 : Cond.code ⟨"CentrifugeUnit$Lid", "locked", "()Z"⟩ prog_3_method_2_code 1 (Option.some Jvm.ClassFile.FieldType.boolean) ∈ xw := xw_of (List.mem_append_right _ (List.mem_of_getElem? (i := 488) (by decide +kernel))) rfl
set_option maxRecDepth 20000 in
theorem tw_494 : Cond.methodLink "CentrifugeUnit$Control" 59 ⟨"CentrifugeUnit$Run", "begin", "()V"⟩ ∈ xw := xw_of (List.mem_append_right _ (List.mem_of_getElem? (i := 494) (by decide +kernel))) rfl
set_option maxRecDepth 20000 in
theorem tw_495 : Cond.instanceMethod ⟨"CentrifugeUnit$Run", "begin", "()V"⟩ ∈ xw := xw_of (List.mem_append_right _ (List.mem_of_getElem? (i := 495) (by decide +kernel))) rfl
set_option maxRecDepth 20000 in
theorem tw_496 : Cond.selects "CentrifugeUnit$Run" ⟨"CentrifugeUnit$Run", "begin", "()V"⟩ ⟨"CentrifugeUnit$Run", "begin", "()V"⟩ ∈ xw := xw_of (List.mem_append_right _ (List.mem_of_getElem? (i := 496) (by decide +kernel))) rfl
set_option maxRecDepth 20000 in
theorem tw_497 : Cond.code ⟨"CentrifugeUnit$Run", "begin", "()V"⟩ prog_8_method_2_code 1 (Option.none : Option Jvm.ClassFile.FieldType) ∈ xw := xw_of (List.mem_append_right _ (List.mem_of_getElem? (i := 497) (by decide +kernel))) rfl
set_option maxRecDepth 20000 in
theorem tw_507 : Cond.instanceMethod ⟨"CentrifugeUnit$Control", "beginStopping", "(I)V"⟩ ∈ xw := xw_of (List.mem_append_right _ (List.mem_of_getElem? (i := 507) (by decide +kernel))) rfl
set_option maxRecDepth 20000 in
theorem tw_508 : Cond.selects "CentrifugeUnit$Control" ⟨"CentrifugeUnit$Control", "beginStopping", "(I)V"⟩ ⟨"CentrifugeUnit$Control", "beginStopping", "(I)V"⟩ ∈ xw := xw_of (List.mem_append_right _ (List.mem_of_getElem? (i := 508) (by decide +kernel))) rfl
set_option maxRecDepth 20000 in
theorem tw_509 : Cond.code ⟨"CentrifugeUnit$Control", "beginStopping", "(I)V"⟩ prog_2_method_4_code 2 (Option.none : Option Jvm.ClassFile.FieldType) ∈ xw := xw_of (List.mem_append_right _ (List.mem_of_getElem? (i := 509) (by decide +kernel))) rfl
set_option maxRecDepth 20000 in
theorem tw_518 : Cond.instanceMethod ⟨"CentrifugeUnit$Watch", "atRest", "()Z"⟩ ∈ xw := xw_of (List.mem_append_right _ (List.mem_of_getElem? (i := 518) (by decide +kernel))) rfl
set_option maxRecDepth 20000 in
theorem tw_519 : Cond.selects "CentrifugeUnit$Watch" ⟨"CentrifugeUnit$Watch", "atRest", "()Z"⟩ ⟨"CentrifugeUnit$Watch", "atRest", "()Z"⟩ ∈ xw := xw_of (List.mem_append_right _ (List.mem_of_getElem? (i := 519) (by decide +kernel))) rfl
set_option maxRecDepth 20000 in
theorem tw_520 : Cond.code ⟨"CentrifugeUnit$Watch", "atRest", "()Z"⟩ prog_10_method_4_code 1 (Option.some Jvm.ClassFile.FieldType.boolean) ∈ xw := xw_of (List.mem_append_right _ (List.mem_of_getElem? (i := 520) (by decide +kernel))) rfl
set_option maxRecDepth 20000 in
theorem tw_565 : Cond.methodLink "CentrifugeUnit$Control" 62 ⟨"CentrifugeUnit$Watch", "forget", "()V"⟩ ∈ xw := xw_of (List.mem_append_right _ (List.mem_of_getElem? (i := 565) (by decide +kernel))) rfl
set_option maxRecDepth 20000 in
theorem tw_566 : Cond.instanceMethod ⟨"CentrifugeUnit$Watch", "forget", "()V"⟩ ∈ xw := xw_of (List.mem_append_right _ (List.mem_of_getElem? (i := 566) (by decide +kernel))) rfl
set_option maxRecDepth 20000 in
theorem tw_567 : Cond.selects "CentrifugeUnit$Watch" ⟨"CentrifugeUnit$Watch", "forget", "()V"⟩ ⟨"CentrifugeUnit$Watch", "forget", "()V"⟩ ∈ xw := xw_of (List.mem_append_right _ (List.mem_of_getElem? (i := 567) (by decide +kernel))) rfl
set_option maxRecDepth 20000 in
theorem tw_568 : Cond.code ⟨"CentrifugeUnit$Watch", "forget", "()V"⟩ prog_10_method_3_code 1 (Option.none : Option Jvm.ClassFile.FieldType) ∈ xw := xw_of (List.mem_append_right _ (List.mem_of_getElem? (i := 568) (by decide +kernel))) rfl
set_option maxRecDepth 20000 in
theorem tw_585 : Cond.methodLink "CentrifugeUnit$Control" 74 ⟨"CentrifugeUnit$Control", "readSensors", "(LCentrifugeUnit$Model;)V"⟩ ∈ xw := xw_of (List.mem_append_right _ (List.mem_of_getElem? (i := 585) (by decide +kernel))) rfl
set_option maxRecDepth 20000 in
theorem tw_587 : Cond.instanceMethod ⟨"CentrifugeUnit$Control", "readSensors", "(LCentrifugeUnit$Model;)V"⟩ ∈ xw := xw_of (List.mem_append_right _ (List.mem_of_getElem? (i := 587) (by decide +kernel))) rfl
set_option maxRecDepth 20000 in
theorem tw_588 : Cond.code ⟨"CentrifugeUnit$Control", "readSensors", "(LCentrifugeUnit$Model;)V"⟩ prog_2_method_9_code 3 (Option.none : Option Jvm.ClassFile.FieldType) ∈ xw := xw_of (List.mem_append_right _ (List.mem_of_getElem? (i := 588) (by decide +kernel))) rfl
set_option maxRecDepth 20000 in
theorem tw_589 : Cond.methodLink "CentrifugeUnit$Control" 96 ⟨"CentrifugeUnit$Sensors", "sense", "(LCentrifugeUnit$Model;)V"⟩ ∈ xw := xw_of (List.mem_append_right _ (List.mem_of_getElem? (i := 589) (by decide +kernel))) rfl
set_option maxRecDepth 20000 in
theorem tw_590 : Cond.instanceMethod ⟨"CentrifugeUnit$Sensors", "sense", "(LCentrifugeUnit$Model;)V"⟩ ∈ xw := xw_of (List.mem_append_right _ (List.mem_of_getElem? (i := 590) (by decide +kernel))) rfl
set_option maxRecDepth 20000 in
theorem tw_591 : Cond.selects "CentrifugeUnit$Sensors" ⟨"CentrifugeUnit$Sensors", "sense", "(LCentrifugeUnit$Model;)V"⟩ ⟨"CentrifugeUnit$Sensors", "sense", "(LCentrifugeUnit$Model;)V"⟩ ∈ xw := xw_of (List.mem_append_right _ (List.mem_of_getElem? (i := 591) (by decide +kernel))) rfl
set_option maxRecDepth 20000 in
theorem tw_592 : Cond.code ⟨"CentrifugeUnit$Sensors", "sense", "(LCentrifugeUnit$Model;)V"⟩ prog_9_method_2_code 6 (Option.none : Option Jvm.ClassFile.FieldType) ∈ xw := xw_of (List.mem_append_right _ (List.mem_of_getElem? (i := 592) (by decide +kernel))) rfl
set_option maxRecDepth 20000 in
theorem tw_593 : Cond.methodLink "CentrifugeUnit$Sensors" 16 ⟨"CentrifugeUnit$Model", "microsecondsOfTurn", "()J"⟩ ∈ xw := xw_of (List.mem_append_right _ (List.mem_of_getElem? (i := 593) (by decide +kernel))) rfl
set_option maxRecDepth 20000 in
theorem tw_594 : Cond.instanceMethod ⟨"CentrifugeUnit$Model", "microsecondsOfTurn", "()J"⟩ ∈ xw := xw_of (List.mem_append_right _ (List.mem_of_getElem? (i := 594) (by decide +kernel))) rfl
set_option maxRecDepth 20000 in
theorem tw_595 : Cond.selects "CentrifugeUnit$Model" ⟨"CentrifugeUnit$Model", "microsecondsOfTurn", "()J"⟩ ⟨"CentrifugeUnit$Model", "microsecondsOfTurn", "()J"⟩ ∈ xw := xw_of (List.mem_append_right _ (List.mem_of_getElem? (i := 595) (by decide +kernel))) rfl
set_option maxRecDepth 20000 in
theorem tw_596 : Cond.code ⟨"CentrifugeUnit$Model", "microsecondsOfTurn", "()J"⟩ prog_4_method_3_code 1 (Option.some Jvm.ClassFile.FieldType.long) ∈ xw := xw_of (List.mem_append_right _ (List.mem_of_getElem? (i := 596) (by decide +kernel))) rfl
set_option maxRecDepth 20000 in
theorem tw_597 : Cond.constantLong "CentrifugeUnit$Model" 30 (60000 : Int64) ∈ xw := xw_of (List.mem_append_right _ (List.mem_of_getElem? (i := 597) (by decide +kernel))) rfl
set_option maxRecDepth 20000 in
theorem tw_598 : Cond.constantLong "CentrifugeUnit$Model" 32 (60000000000 : Int64) ∈ xw := xw_of (List.mem_append_right _ (List.mem_of_getElem? (i := 598) (by decide +kernel))) rfl
set_option maxRecDepth 20000 in
theorem tw_599 : Cond.methodLink "CentrifugeUnit$Sensors" 22 ⟨"CentrifugeUnit$Model", "countInTick", "()J"⟩ ∈ xw := xw_of (List.mem_append_right _ (List.mem_of_getElem? (i := 599) (by decide +kernel))) rfl
set_option maxRecDepth 20000 in
theorem tw_600 : Cond.instanceMethod ⟨"CentrifugeUnit$Model", "countInTick", "()J"⟩ ∈ xw := xw_of (List.mem_append_right _ (List.mem_of_getElem? (i := 600) (by decide +kernel))) rfl
set_option maxRecDepth 20000 in
theorem tw_601 : Cond.selects "CentrifugeUnit$Model" ⟨"CentrifugeUnit$Model", "countInTick", "()J"⟩ ⟨"CentrifugeUnit$Model", "countInTick", "()J"⟩ ∈ xw := xw_of (List.mem_append_right _ (List.mem_of_getElem? (i := 601) (by decide +kernel))) rfl
set_option maxRecDepth 20000 in
theorem tw_602 : Cond.code ⟨"CentrifugeUnit$Model", "countInTick", "()J"⟩ prog_4_method_4_code 1 (Option.some Jvm.ClassFile.FieldType.long) ∈ xw := xw_of (List.mem_append_right _ (List.mem_of_getElem? (i := 602) (by decide +kernel))) rfl
set_option maxRecDepth 20000 in
theorem tw_603 : Cond.constantLong "CentrifugeUnit$Model" 25 (10000 : Int64) ∈ xw := xw_of (List.mem_append_right _ (List.mem_of_getElem? (i := 603) (by decide +kernel))) rfl
set_option maxRecDepth 20000 in
theorem tw_604 : Cond.constantLong "CentrifugeUnit$Sensors" 25 (100000 : Int64) ∈ xw := xw_of (List.mem_append_right _ (List.mem_of_getElem? (i := 604) (by decide +kernel))) rfl
set_option maxRecDepth 20000 in
theorem tw_605 : Cond.constantLong "CentrifugeUnit$Sensors" 27 (60000000 : Int64) ∈ xw := xw_of (List.mem_append_right _ (List.mem_of_getElem? (i := 605) (by decide +kernel))) rfl
set_option maxRecDepth 20000 in
theorem tw_606 : Cond.methodLink "CentrifugeUnit$Sensors" 29 ⟨"java/lang/Math", "min", "(JJ)J"⟩ ∈ xw := xw_of (List.mem_append_right _ (List.mem_of_getElem? (i := 606) (by decide +kernel))) rfl
set_option maxRecDepth 20000 in
theorem tw_607 : Cond.static ⟨"java/lang/Math", "min", "(JJ)J"⟩ ∈ xw := xw_of (List.mem_append_right _ (List.mem_of_getElem? (i := 607) (by decide +kernel))) rfl
set_option maxRecDepth 20000 in
theorem tw_608 : Cond.code ⟨"java/lang/Math", "min", "(JJ)J"⟩ prog_17_method_70_code 4 (Option.some Jvm.ClassFile.FieldType.long) ∈ xw := xw_of (List.mem_append_right _ (List.mem_of_getElem? (i := 608) (by decide +kernel))) rfl
set_option maxRecDepth 20000 in
theorem tw_609 : Cond.constantLong "CentrifugeUnit$Sensors" 38 (10 : Int64) ∈ xw := xw_of (List.mem_append_right _ (List.mem_of_getElem? (i := 609) (by decide +kernel))) rfl
set_option maxRecDepth 20000 in
theorem tw_610 : Cond.methodLink "CentrifugeUnit$Sensors" 43 ⟨"java/lang/Math", "max", "(II)I"⟩ ∈ xw := xw_of (List.mem_append_right _ (List.mem_of_getElem? (i := 610) (by decide +kernel))) rfl
set_option maxRecDepth 20000 in
theorem tw_611 : Cond.static ⟨"java/lang/Math", "max", "(II)I"⟩ ∈ xw := xw_of (List.mem_append_right _ (List.mem_of_getElem? (i := 611) (by decide +kernel))) rfl
set_option maxRecDepth 20000 in
theorem tw_612 : Cond.code ⟨"java/lang/Math", "max", "(II)I"⟩ prog_17_method_65_code 2 (Option.some Jvm.ClassFile.FieldType.int) ∈ xw := xw_of (List.mem_append_right _ (List.mem_of_getElem? (i := 612) (by decide +kernel))) rfl
set_option maxRecDepth 20000 in
theorem tw_613 : Cond.methodLink "CentrifugeUnit$Sensors" 50 ⟨"java/lang/Math", "min", "(II)I"⟩ ∈ xw := xw_of (List.mem_append_right _ (List.mem_of_getElem? (i := 613) (by decide +kernel))) rfl
set_option maxRecDepth 20000 in
theorem tw_614 : Cond.static ⟨"java/lang/Math", "min", "(II)I"⟩ ∈ xw := xw_of (List.mem_append_right _ (List.mem_of_getElem? (i := 614) (by decide +kernel))) rfl
set_option maxRecDepth 20000 in
theorem tw_615 : Cond.code ⟨"java/lang/Math", "min", "(II)I"⟩ prog_17_method_69_code 2 (Option.some Jvm.ClassFile.FieldType.int) ∈ xw := xw_of (List.mem_append_right _ (List.mem_of_getElem? (i := 615) (by decide +kernel))) rfl
set_option maxRecDepth 20000 in
theorem tw_616 : Cond.methodLink "CentrifugeUnit$Control" 101 ⟨"CentrifugeUnit$Watch", "count", "(LCentrifugeUnit$Sensors;)V"⟩ ∈ xw := xw_of (List.mem_append_right _ (List.mem_of_getElem? (i := 616) (by decide +kernel))) rfl
set_option maxRecDepth 20000 in
theorem tw_617 : Cond.instanceMethod ⟨"CentrifugeUnit$Watch", "count", "(LCentrifugeUnit$Sensors;)V"⟩ ∈ xw := xw_of (List.mem_append_right _ (List.mem_of_getElem? (i := 617) (by decide +kernel))) rfl
set_option maxRecDepth 20000 in
theorem tw_618 : Cond.selects "CentrifugeUnit$Watch" ⟨"CentrifugeUnit$Watch", "count", "(LCentrifugeUnit$Sensors;)V"⟩ ⟨"CentrifugeUnit$Watch", "count", "(LCentrifugeUnit$Sensors;)V"⟩ ∈ xw := xw_of (List.mem_append_right _ (List.mem_of_getElem? (i := 618) (by decide +kernel))) rfl
set_option maxRecDepth 20000 in
theorem tw_619 : Cond.code ⟨"CentrifugeUnit$Watch", "count", "(LCentrifugeUnit$Sensors;)V"⟩ prog_10_method_2_code 4 (Option.none : Option Jvm.ClassFile.FieldType) ∈ xw := xw_of (List.mem_append_right _ (List.mem_of_getElem? (i := 619) (by decide +kernel))) rfl
set_option maxRecDepth 20000 in
theorem tw_620 : Cond.methodLink "CentrifugeUnit$Control" 112 ⟨"CentrifugeUnit$Control", "turning", "()Z"⟩ ∈ xw := xw_of (List.mem_append_right _ (List.mem_of_getElem? (i := 620) (by decide +kernel))) rfl
set_option maxRecDepth 20000 in
theorem tw_622 : Cond.instanceMethod ⟨"CentrifugeUnit$Control", "turning", "()Z"⟩ ∈ xw := xw_of (List.mem_append_right _ (List.mem_of_getElem? (i := 622) (by decide +kernel))) rfl
set_option maxRecDepth 20000 in
theorem tw_623 : Cond.code ⟨"CentrifugeUnit$Control", "turning", "()Z"⟩ prog_2_method_8_code 1 (Option.some Jvm.ClassFile.FieldType.boolean) ∈ xw := xw_of (List.mem_append_right _ (List.mem_of_getElem? (i := 623) (by decide +kernel))) rfl
set_option maxRecDepth 20000 in
theorem tw_624 : Cond.constantLong "CentrifugeUnit$Control" 115 (300000 : Int64) ∈ xw := xw_of (List.mem_append_right _ (List.mem_of_getElem? (i := 624) (by decide +kernel))) rfl
set_option maxRecDepth 20000 in
theorem tw_625 : Cond.methodLink "CentrifugeUnit$Control" 117 ⟨"CentrifugeUnit$Run", "readPattern", "(LCentrifugeUnit$Rotors;)V"⟩ ∈ xw := xw_of (List.mem_append_right _ (List.mem_of_getElem? (i := 625) (by decide +kernel))) rfl
set_option maxRecDepth 20000 in
theorem tw_626 : Cond.instanceMethod ⟨"CentrifugeUnit$Run", "readPattern", "(LCentrifugeUnit$Rotors;)V"⟩ ∈ xw := xw_of (List.mem_append_right _ (List.mem_of_getElem? (i := 626) (by decide +kernel))) rfl
set_option maxRecDepth 20000 in
theorem tw_627 : Cond.selects "CentrifugeUnit$Run" ⟨"CentrifugeUnit$Run", "readPattern", "(LCentrifugeUnit$Rotors;)V"⟩ ⟨"CentrifugeUnit$Run", "readPattern", "(LCentrifugeUnit$Rotors;)V"⟩ ∈ xw := xw_of (List.mem_append_right _ (List.mem_of_getElem? (i := 627) (by decide +kernel))) rfl
set_option maxRecDepth 20000 in
theorem tw_628 : Cond.code ⟨"CentrifugeUnit$Run", "readPattern", "(LCentrifugeUnit$Rotors;)V"⟩ prog_8_method_3_code 3 (Option.none : Option Jvm.ClassFile.FieldType) ∈ xw := xw_of (List.mem_append_right _ (List.mem_of_getElem? (i := 628) (by decide +kernel))) rfl
set_option maxRecDepth 20000 in
theorem tw_629 : Cond.methodLink "CentrifugeUnit$Run" 38 ⟨"CentrifugeUnit$Rotors", "patternIn", "()I"⟩ ∈ xw := xw_of (List.mem_append_right _ (List.mem_of_getElem? (i := 629) (by decide +kernel))) rfl
set_option maxRecDepth 20000 in
theorem tw_630 : Cond.instanceMethod ⟨"CentrifugeUnit$Rotors", "patternIn", "()I"⟩ ∈ xw := xw_of (List.mem_append_right _ (List.mem_of_getElem? (i := 630) (by decide +kernel))) rfl
set_option maxRecDepth 20000 in
theorem tw_631 : Cond.selects "CentrifugeUnit$Rotors" ⟨"CentrifugeUnit$Rotors", "patternIn", "()I"⟩ ⟨"CentrifugeUnit$Rotors", "patternIn", "()I"⟩ ∈ xw := xw_of (List.mem_append_right _ (List.mem_of_getElem? (i := 631) (by decide +kernel))) rfl
set_option maxRecDepth 20000 in
theorem tw_632 : Cond.code ⟨"CentrifugeUnit$Rotors", "patternIn", "()I"⟩ prog_7_method_7_code 1 (Option.some Jvm.ClassFile.FieldType.int) ∈ xw := xw_of (List.mem_append_right _ (List.mem_of_getElem? (i := 632) (by decide +kernel))) rfl
set_option maxRecDepth 20000 in
theorem tw_633 : Cond.methodLink "CentrifugeUnit$Run" 44 ⟨"CentrifugeUnit$Rotors", "withPattern", "(I)I"⟩ ∈ xw := xw_of (List.mem_append_right _ (List.mem_of_getElem? (i := 633) (by decide +kernel))) rfl
set_option maxRecDepth 20000 in
theorem tw_634 : Cond.methodLink "CentrifugeUnit$Control" 124 ⟨"java/lang/Math", "max", "(II)I"⟩ ∈ xw := xw_of (List.mem_append_right _ (List.mem_of_getElem? (i := 634) (by decide +kernel))) rfl
set_option maxRecDepth 20000 in
theorem tw_635 : Cond.methodLink "CentrifugeUnit$Control" 78 ⟨"CentrifugeUnit$Control", "lookForFault", "()V"⟩ ∈ xw := xw_of (List.mem_append_right _ (List.mem_of_getElem? (i := 635) (by decide +kernel))) rfl
set_option maxRecDepth 20000 in
theorem tw_637 : Cond.instanceMethod ⟨"CentrifugeUnit$Control", "lookForFault", "()V"⟩ ∈ xw := xw_of (List.mem_append_right _ (List.mem_of_getElem? (i := 637) (by decide +kernel))) rfl
set_option maxRecDepth 20000 in
theorem tw_638 : Cond.code ⟨"CentrifugeUnit$Control", "lookForFault", "()V"⟩ prog_2_method_10_code 2 (Option.none : Option Jvm.ClassFile.FieldType) ∈ xw := xw_of (List.mem_append_right _ (List.mem_of_getElem? (i := 638) (by decide +kernel))) rfl
set_option maxRecDepth 20000 in
theorem tw_639 : Cond.methodLink "CentrifugeUnit$Control" 130 ⟨"CentrifugeUnit$Control", "faultReason", "()I"⟩ ∈ xw := xw_of (List.mem_append_right _ (List.mem_of_getElem? (i := 639) (by decide +kernel))) rfl
set_option maxRecDepth 20000 in
theorem tw_641 : Cond.instanceMethod ⟨"CentrifugeUnit$Control", "faultReason", "()I"⟩ ∈ xw := xw_of (List.mem_append_right _ (List.mem_of_getElem? (i := 641) (by decide +kernel))) rfl
set_option maxRecDepth 20000 in
theorem tw_642 : Cond.code ⟨"CentrifugeUnit$Control", "faultReason", "()I"⟩ prog_2_method_11_code 1 (Option.some Jvm.ClassFile.FieldType.int) ∈ xw := xw_of (List.mem_append_right _ (List.mem_of_getElem? (i := 642) (by decide +kernel))) rfl
set_option maxRecDepth 20000 in
theorem tw_643 : Cond.methodLink "CentrifugeUnit$Control" 134 ⟨"CentrifugeUnit$Lid", "locked", "()Z"⟩ ∈ xw := xw_of (List.mem_append_right _ (List.mem_of_getElem? (i := 643) (by decide +kernel))) rfl
set_option maxRecDepth 20000 in
theorem tw_644 : Cond.methodLink "CentrifugeUnit$Control" 143 ⟨"CentrifugeUnit$Rotors", "limitOf", "(I)I"⟩ ∈ xw := xw_of (List.mem_append_right _ (List.mem_of_getElem? (i := 644) (by decide +kernel))) rfl
set_option maxRecDepth 20000 in
theorem tw_645 : Cond.instanceMethod ⟨"CentrifugeUnit$Rotors", "limitOf", "(I)I"⟩ ∈ xw := xw_of (List.mem_append_right _ (List.mem_of_getElem? (i := 645) (by decide +kernel))) rfl
set_option maxRecDepth 20000 in
theorem tw_646 : Cond.selects "CentrifugeUnit$Rotors" ⟨"CentrifugeUnit$Rotors", "limitOf", "(I)I"⟩ ⟨"CentrifugeUnit$Rotors", "limitOf", "(I)I"⟩ ∈ xw := xw_of (List.mem_append_right _ (List.mem_of_getElem? (i := 646) (by decide +kernel))) rfl
set_option maxRecDepth 20000 in
theorem tw_647 : Cond.code ⟨"CentrifugeUnit$Rotors", "limitOf", "(I)I"⟩ prog_7_method_10_code 2 (Option.some Jvm.ClassFile.FieldType.int) ∈ xw := xw_of (List.mem_append_right _ (List.mem_of_getElem? (i := 647) (by decide +kernel))) rfl
set_option maxRecDepth 20000 in
theorem tw_648 : Cond.methodLink "CentrifugeUnit$Control" 149 ⟨"CentrifugeUnit$Watch", "shakesTooLong", "()Z"⟩ ∈ xw := xw_of (List.mem_append_right _ (List.mem_of_getElem? (i := 648) (by decide +kernel))) rfl
set_option maxRecDepth 20000 in
theorem tw_649 : Cond.instanceMethod ⟨"CentrifugeUnit$Watch", "shakesTooLong", "()Z"⟩ ∈ xw := xw_of (List.mem_append_right _ (List.mem_of_getElem? (i := 649) (by decide +kernel))) rfl
set_option maxRecDepth 20000 in
theorem tw_650 : Cond.selects "CentrifugeUnit$Watch" ⟨"CentrifugeUnit$Watch", "shakesTooLong", "()Z"⟩ ⟨"CentrifugeUnit$Watch", "shakesTooLong", "()Z"⟩ ∈ xw := xw_of (List.mem_append_right _ (List.mem_of_getElem? (i := 650) (by decide +kernel))) rfl
set_option maxRecDepth 20000 in
theorem tw_651 : Cond.code ⟨"CentrifugeUnit$Watch", "shakesTooLong", "()Z"⟩ prog_10_method_5_code 1 (Option.some Jvm.ClassFile.FieldType.boolean) ∈ xw := xw_of (List.mem_append_right _ (List.mem_of_getElem? (i := 651) (by decide +kernel))) rfl
set_option maxRecDepth 20000 in
theorem tw_652 : Cond.methodLink "CentrifugeUnit$Control" 152 ⟨"CentrifugeUnit$Watch", "differsTooLong", "()Z"⟩ ∈ xw := xw_of (List.mem_append_right _ (List.mem_of_getElem? (i := 652) (by decide +kernel))) rfl
set_option maxRecDepth 20000 in
theorem tw_653 : Cond.instanceMethod ⟨"CentrifugeUnit$Watch", "differsTooLong", "()Z"⟩ ∈ xw := xw_of (List.mem_append_right _ (List.mem_of_getElem? (i := 653) (by decide +kernel))) rfl
set_option maxRecDepth 20000 in
theorem tw_654 : Cond.selects "CentrifugeUnit$Watch" ⟨"CentrifugeUnit$Watch", "differsTooLong", "()Z"⟩ ⟨"CentrifugeUnit$Watch", "differsTooLong", "()Z"⟩ ∈ xw := xw_of (List.mem_append_right _ (List.mem_of_getElem? (i := 654) (by decide +kernel))) rfl
set_option maxRecDepth 20000 in
theorem tw_655 : Cond.code ⟨"CentrifugeUnit$Watch", "differsTooLong", "()Z"⟩ prog_10_method_6_code 1 (Option.some Jvm.ClassFile.FieldType.boolean) ∈ xw := xw_of (List.mem_append_right _ (List.mem_of_getElem? (i := 655) (by decide +kernel))) rfl
set_option maxRecDepth 20000 in
theorem tw_656 : Cond.methodLink "CentrifugeUnit$Control" 81 ⟨"CentrifugeUnit$Control", "addDose", "()V"⟩ ∈ xw := xw_of (List.mem_append_right _ (List.mem_of_getElem? (i := 656) (by decide +kernel))) rfl
set_option maxRecDepth 20000 in
theorem tw_658 : Cond.instanceMethod ⟨"CentrifugeUnit$Control", "addDose", "()V"⟩ ∈ xw := xw_of (List.mem_append_right _ (List.mem_of_getElem? (i := 658) (by decide +kernel))) rfl
set_option maxRecDepth 20000 in
theorem tw_659 : Cond.code ⟨"CentrifugeUnit$Control", "addDose", "()V"⟩ prog_2_method_12_code 3 (Option.none : Option Jvm.ClassFile.FieldType) ∈ xw := xw_of (List.mem_append_right _ (List.mem_of_getElem? (i := 659) (by decide +kernel))) rfl
set_option maxRecDepth 20000 in
theorem tw_660 : Cond.methodLink "CentrifugeUnit$Control" 161 ⟨"CentrifugeUnit$Rotors", "radiusOf", "(I)I"⟩ ∈ xw := xw_of (List.mem_append_right _ (List.mem_of_getElem? (i := 660) (by decide +kernel))) rfl
set_option maxRecDepth 20000 in
theorem tw_661 : Cond.methodLink "CentrifugeUnit$Control" 84 ⟨"CentrifugeUnit$Control", "followProgram", "()V"⟩ ∈ xw := xw_of (List.mem_append_right _ (List.mem_of_getElem? (i := 661) (by decide +kernel))) rfl
set_option maxRecDepth 20000 in
theorem tw_663 : Cond.instanceMethod ⟨"CentrifugeUnit$Control", "followProgram", "()V"⟩ ∈ xw := xw_of (List.mem_append_right _ (List.mem_of_getElem? (i := 663) (by decide +kernel))) rfl
set_option maxRecDepth 20000 in
theorem tw_664 : Cond.code ⟨"CentrifugeUnit$Control", "followProgram", "()V"⟩ prog_2_method_13_code 1 (Option.none : Option Jvm.ClassFile.FieldType) ∈ xw := xw_of (List.mem_append_right _ (List.mem_of_getElem? (i := 664) (by decide +kernel))) rfl
set_option maxRecDepth 20000 in
theorem tw_665 : Cond.methodLink "CentrifugeUnit$Control" 167 ⟨"CentrifugeUnit$Program", "has", "(I)Z"⟩ ∈ xw := xw_of (List.mem_append_right _ (List.mem_of_getElem? (i := 665) (by decide +kernel))) rfl
set_option maxRecDepth 20000 in
theorem tw_666 : Cond.instanceMethod ⟨"CentrifugeUnit$Program", "has", "(I)Z"⟩ ∈ xw := xw_of (List.mem_append_right _ (List.mem_of_getElem? (i := 666) (by decide +kernel))) rfl
set_option maxRecDepth 20000 in
theorem tw_667 : Cond.selects "CentrifugeUnit$Program" ⟨"CentrifugeUnit$Program", "has", "(I)Z"⟩ ⟨"CentrifugeUnit$Program", "has", "(I)Z"⟩ ∈ xw := xw_of (List.mem_append_right _ (List.mem_of_getElem? (i := 667) (by decide +kernel))) rfl
set_option maxRecDepth 20000 in
theorem tw_668 : Cond.code ⟨"CentrifugeUnit$Program", "has", "(I)Z"⟩ prog_5_method_5_code 2 (Option.some Jvm.ClassFile.FieldType.boolean) ∈ xw := xw_of (List.mem_append_right _ (List.mem_of_getElem? (i := 668) (by decide +kernel))) rfl
set_option maxRecDepth 20000 in
theorem tw_669 : Cond.methodLink "CentrifugeUnit$Control" 173 ⟨"CentrifugeUnit$Control", "segmentIsThrough", "(I)Z"⟩ ∈ xw := xw_of (List.mem_append_right _ (List.mem_of_getElem? (i := 669) (by decide +kernel))) rfl
set_option maxRecDepth 20000 in
theorem tw_671 : Cond.instanceMethod ⟨"CentrifugeUnit$Control", "segmentIsThrough", "(I)Z"⟩ ∈ xw := xw_of (List.mem_append_right _ (List.mem_of_getElem? (i := 671) (by decide +kernel))) rfl
set_option maxRecDepth 20000 in
theorem tw_672 : Cond.code ⟨"CentrifugeUnit$Control", "segmentIsThrough", "(I)Z"⟩ prog_2_method_14_code 4 (Option.some Jvm.ClassFile.FieldType.boolean) ∈ xw := xw_of (List.mem_append_right _ (List.mem_of_getElem? (i := 672) (by decide +kernel))) rfl
set_option maxRecDepth 20000 in
theorem tw_673 : Cond.methodLink "CentrifugeUnit$Control" 196 ⟨"CentrifugeUnit$Control", "ramp", "(II)Z"⟩ ∈ xw := xw_of (List.mem_append_right _ (List.mem_of_getElem? (i := 673) (by decide +kernel))) rfl
set_option maxRecDepth 20000 in
theorem tw_675 : Cond.instanceMethod ⟨"CentrifugeUnit$Control", "ramp", "(II)Z"⟩ ∈ xw := xw_of (List.mem_append_right _ (List.mem_of_getElem? (i := 675) (by decide +kernel))) rfl
set_option maxRecDepth 20000 in
theorem tw_676 : Cond.code ⟨"CentrifugeUnit$Control", "ramp", "(II)Z"⟩ prog_2_method_15_code 4 (Option.some Jvm.ClassFile.FieldType.boolean) ∈ xw := xw_of (List.mem_append_right _ (List.mem_of_getElem? (i := 676) (by decide +kernel))) rfl
set_option maxRecDepth 20000 in
theorem tw_677 : Cond.methodLink "CentrifugeUnit$Control" 211 ⟨"CentrifugeUnit$Run", "moveGoal", "(II)V"⟩ ∈ xw := xw_of (List.mem_append_right _ (List.mem_of_getElem? (i := 677) (by decide +kernel))) rfl
set_option maxRecDepth 20000 in
theorem tw_678 : Cond.instanceMethod ⟨"CentrifugeUnit$Run", "moveGoal", "(II)V"⟩ ∈ xw := xw_of (List.mem_append_right _ (List.mem_of_getElem? (i := 678) (by decide +kernel))) rfl
set_option maxRecDepth 20000 in
theorem tw_679 : Cond.selects "CentrifugeUnit$Run" ⟨"CentrifugeUnit$Run", "moveGoal", "(II)V"⟩ ⟨"CentrifugeUnit$Run", "moveGoal", "(II)V"⟩ ∈ xw := xw_of (List.mem_append_right _ (List.mem_of_getElem? (i := 679) (by decide +kernel))) rfl
set_option maxRecDepth 20000 in
theorem tw_680 : Cond.code ⟨"CentrifugeUnit$Run", "moveGoal", "(II)V"⟩ prog_8_method_4_code 3 (Option.none : Option Jvm.ClassFile.FieldType) ∈ xw := xw_of (List.mem_append_right _ (List.mem_of_getElem? (i := 680) (by decide +kernel))) rfl
set_option maxRecDepth 20000 in
theorem tw_681 : Cond.methodLink "CentrifugeUnit$Run" 48 ⟨"java/lang/Math", "min", "(II)I"⟩ ∈ xw := xw_of (List.mem_append_right _ (List.mem_of_getElem? (i := 681) (by decide +kernel))) rfl
set_option maxRecDepth 20000 in
theorem tw_682 : Cond.methodLink "CentrifugeUnit$Run" 54 ⟨"java/lang/Math", "max", "(II)I"⟩ ∈ xw := xw_of (List.mem_append_right _ (List.mem_of_getElem? (i := 682) (by decide +kernel))) rfl
set_option maxRecDepth 20000 in
theorem tw_683 : Cond.methodLink "CentrifugeUnit$Control" 203 ⟨"CentrifugeUnit$Control", "keepToGoal", "()V"⟩ ∈ xw := xw_of (List.mem_append_right _ (List.mem_of_getElem? (i := 683) (by decide +kernel))) rfl
set_option maxRecDepth 20000 in
theorem tw_685 : Cond.instanceMethod ⟨"CentrifugeUnit$Control", "keepToGoal", "()V"⟩ ∈ xw := xw_of (List.mem_append_right _ (List.mem_of_getElem? (i := 685) (by decide +kernel))) rfl
set_option maxRecDepth 20000 in
theorem tw_686 : Cond.code ⟨"CentrifugeUnit$Control", "keepToGoal", "()V"⟩ prog_2_method_17_code 2 (Option.none : Option Jvm.ClassFile.FieldType) ∈ xw := xw_of (List.mem_append_right _ (List.mem_of_getElem? (i := 686) (by decide +kernel))) rfl
set_option maxRecDepth 20000 in
theorem tw_687 : Cond.methodLink "CentrifugeUnit$Control" 218 ⟨"java/lang/Math", "min", "(II)I"⟩ ∈ xw := xw_of (List.mem_append_right _ (List.mem_of_getElem? (i := 687) (by decide +kernel))) rfl
set_option maxRecDepth 20000 in
theorem tw_688 : Cond.methodLink "CentrifugeUnit$Control" 215 ⟨"java/lang/Math", "abs", "(I)I"⟩ ∈ xw := xw_of (List.mem_append_right _ (List.mem_of_getElem? (i := 688) (by decide +kernel))) rfl
set_option maxRecDepth 20000 in
theorem tw_689 : Cond.static ⟨"java/lang/Math", "abs", "(I)I"⟩ ∈ xw := xw_of (List.mem_append_right _ (List.mem_of_getElem? (i := 689) (by decide +kernel))) rfl
set_option maxRecDepth 20000 in
theorem tw_690 : Cond.code ⟨"java/lang/Math", "abs", "(I)I"⟩ prog_17_method_59_code 1 (Option.some Jvm.ClassFile.FieldType.int) ∈ xw := xw_of (List.mem_append_right _ (List.mem_of_getElem? (i := 690) (by decide +kernel))) rfl
set_option maxRecDepth 20000 in
theorem tw_691 : Cond.methodLink "CentrifugeUnit$Control" 200 ⟨"CentrifugeUnit$Control", "slowDown", "(II)Z"⟩ ∈ xw := xw_of (List.mem_append_right _ (List.mem_of_getElem? (i := 691) (by decide +kernel))) rfl
set_option maxRecDepth 20000 in
theorem tw_693 : Cond.instanceMethod ⟨"CentrifugeUnit$Control", "slowDown", "(II)Z"⟩ ∈ xw := xw_of (List.mem_append_right _ (List.mem_of_getElem? (i := 693) (by decide +kernel))) rfl
set_option maxRecDepth 20000 in
theorem tw_694 : Cond.code ⟨"CentrifugeUnit$Control", "slowDown", "(II)Z"⟩ prog_2_method_16_code 3 (Option.some Jvm.ClassFile.FieldType.boolean) ∈ xw := xw_of (List.mem_append_right _ (List.mem_of_getElem? (i := 694) (by decide +kernel))) rfl
set_option maxRecDepth 20000 in
theorem tw_695 : Cond.constantLong "CentrifugeUnit$Control" 206 (1000000000 : Int64) ∈ xw := xw_of (List.mem_append_right _ (List.mem_of_getElem? (i := 695) (by decide +kernel))) rfl
set_option maxRecDepth 20000 in
theorem tw_696 : Cond.methodLink "CentrifugeUnit$Control" 176 ⟨"CentrifugeUnit$Run", "nextSegment", "()V"⟩ ∈ xw := xw_of (List.mem_append_right _ (List.mem_of_getElem? (i := 696) (by decide +kernel))) rfl
set_option maxRecDepth 20000 in
theorem tw_697 : Cond.instanceMethod ⟨"CentrifugeUnit$Run", "nextSegment", "()V"⟩ ∈ xw := xw_of (List.mem_append_right _ (List.mem_of_getElem? (i := 697) (by decide +kernel))) rfl
set_option maxRecDepth 20000 in
theorem tw_698 : Cond.selects "CentrifugeUnit$Run" ⟨"CentrifugeUnit$Run", "nextSegment", "()V"⟩ ⟨"CentrifugeUnit$Run", "nextSegment", "()V"⟩ ∈ xw := xw_of (List.mem_append_right _ (List.mem_of_getElem? (i := 698) (by decide +kernel))) rfl
set_option maxRecDepth 20000 in
theorem tw_699 : Cond.code ⟨"CentrifugeUnit$Run", "nextSegment", "()V"⟩ prog_8_method_5_code 1 (Option.none : Option Jvm.ClassFile.FieldType) ∈ xw := xw_of (List.mem_append_right _ (List.mem_of_getElem? (i := 699) (by decide +kernel))) rfl
set_option maxRecDepth 20000 in
theorem tw_700 : Cond.methodLink "CentrifugeUnit$Control" 179 ⟨"CentrifugeUnit$Control", "beginStopping", "(I)V"⟩ ∈ xw := xw_of (List.mem_append_right _ (List.mem_of_getElem? (i := 700) (by decide +kernel))) rfl
set_option maxRecDepth 20000 in
theorem tw_701 : Cond.methodLink "CentrifugeUnit$Control" 87 ⟨"CentrifugeUnit$Control", "comeToRest", "()V"⟩ ∈ xw := xw_of (List.mem_append_right _ (List.mem_of_getElem? (i := 701) (by decide +kernel))) rfl
set_option maxRecDepth 20000 in
theorem tw_703 : Cond.instanceMethod ⟨"CentrifugeUnit$Control", "comeToRest", "()V"⟩ ∈ xw := xw_of (List.mem_append_right _ (List.mem_of_getElem? (i := 703) (by decide +kernel))) rfl
set_option maxRecDepth 20000 in
theorem tw_704 : Cond.code ⟨"CentrifugeUnit$Control", "comeToRest", "()V"⟩ prog_2_method_18_code 1 (Option.none : Option Jvm.ClassFile.FieldType) ∈ xw := xw_of (List.mem_append_right _ (List.mem_of_getElem? (i := 704) (by decide +kernel))) rfl
set_option maxRecDepth 20000 in
theorem tw_705 : Cond.methodLink "CentrifugeUnit$Control" 221 ⟨"CentrifugeUnit$Watch", "atRest", "()Z"⟩ ∈ xw := xw_of (List.mem_append_right _ (List.mem_of_getElem? (i := 705) (by decide +kernel))) rfl
set_option maxRecDepth 20000 in
theorem tw_706 : Cond.methodLink "CentrifugeUnit$Control" 224 ⟨"CentrifugeUnit$Records", "add", "(IJI)V"⟩ ∈ xw := xw_of (List.mem_append_right _ (List.mem_of_getElem? (i := 706) (by decide +kernel))) rfl
set_option maxRecDepth 20000 in
theorem tw_707 : Cond.instanceMethod ⟨"CentrifugeUnit$Records", "add", "(IJI)V"⟩ ∈ xw := xw_of (List.mem_append_right _ (List.mem_of_getElem? (i := 707) (by decide +kernel))) rfl
set_option maxRecDepth 20000 in
theorem tw_708 : Cond.selects "CentrifugeUnit$Records" ⟨"CentrifugeUnit$Records", "add", "(IJI)V"⟩ ⟨"CentrifugeUnit$Records", "add", "(IJI)V"⟩ ∈ xw := xw_of (List.mem_append_right _ (List.mem_of_getElem? (i := 708) (by decide +kernel))) rfl
set_option maxRecDepth 20000 in
theorem tw_709 : Cond.code ⟨"CentrifugeUnit$Records", "add", "(IJI)V"⟩ prog_6_method_2_code 6 (Option.none : Option Jvm.ClassFile.FieldType) ∈ xw := xw_of (List.mem_append_right _ (List.mem_of_getElem? (i := 709) (by decide +kernel))) rfl
set_option maxRecDepth 20000 in
theorem tw_710 : Cond.methodLink "CentrifugeUnit$Records" 24 ⟨"java/lang/Math", "floorMod", "(II)I"⟩ ∈ xw := xw_of (List.mem_append_right _ (List.mem_of_getElem? (i := 710) (by decide +kernel))) rfl
set_option maxRecDepth 20000 in
theorem tw_711 : Cond.static ⟨"java/lang/Math", "floorMod", "(II)I"⟩ ∈ xw := xw_of (List.mem_append_right _ (List.mem_of_getElem? (i := 711) (by decide +kernel))) rfl
set_option maxRecDepth 20000 in
theorem tw_712 : Cond.code ⟨"java/lang/Math", "floorMod", "(II)I"⟩ prog_17_method_50_code 3 (Option.some Jvm.ClassFile.FieldType.int) ∈ xw := xw_of (List.mem_append_right _ (List.mem_of_getElem? (i := 712) (by decide +kernel))) rfl
set_option maxRecDepth 20000 in
theorem tw_713 : Cond.methodLink "CentrifugeUnit$Control" 90 ⟨"CentrifugeUnit$Lid", "feedCoil", "()Z"⟩ ∈ xw := xw_of (List.mem_append_right _ (List.mem_of_getElem? (i := 713) (by decide +kernel))) rfl
set_option maxRecDepth 20000 in
theorem tw_714 : Cond.instanceMethod ⟨"CentrifugeUnit$Lid", "feedCoil", "()Z"⟩ ∈ xw := xw_of (List.mem_append_right _ (List.mem_of_getElem? (i := 714) (by decide +kernel))) rfl
set_option maxRecDepth 20000 in
theorem tw_715 : Cond.selects "CentrifugeUnit$Lid" ⟨"CentrifugeUnit$Lid", "feedCoil", "()Z"⟩ ⟨"CentrifugeUnit$Lid", "feedCoil", "()Z"⟩ ∈ xw := xw_of (List.mem_append_right _ (List.mem_of_getElem? (i := 715) (by decide +kernel))) rfl
set_option maxRecDepth 20000 in
theorem tw_716 : Cond.code ⟨"CentrifugeUnit$Lid", "feedCoil", "()Z"⟩ prog_3_method_4_code 1 (Option.some Jvm.ClassFile.FieldType.boolean) ∈ xw := xw_of (List.mem_append_right _ (List.mem_of_getElem? (i := 716) (by decide +kernel))) rfl
set_option maxRecDepth 20000 in
theorem tw_725 : Cond.methodLink "CentrifugeUnit$Model" 7 ⟨"java/lang/Math", "max", "(II)I"⟩ ∈ xw := xw_of (List.mem_append_right _ (List.mem_of_getElem? (i := 725) (by decide +kernel))) rfl
set_option maxRecDepth 20000 in
theorem tw_726 : Cond.constantLong "CentrifugeUnit$Model" 19 (1000 : Int64) ∈ xw := xw_of (List.mem_append_right _ (List.mem_of_getElem? (i := 726) (by decide +kernel))) rfl
set_option maxRecDepth 20000 in
theorem tw_727 : Cond.constantLong "CentrifugeUnit$Model" 21 (2000 : Int64) ∈ xw := xw_of (List.mem_append_right _ (List.mem_of_getElem? (i := 727) (by decide +kernel))) rfl
set_option maxRecDepth 20000 in
theorem tw_728 : Cond.constantLong "CentrifugeUnit$Model" 23 (200 : Int64) ∈ xw := xw_of (List.mem_append_right _ (List.mem_of_getElem? (i := 728) (by decide +kernel))) rfl
set_option maxRecDepth 20000 in
theorem tw_729 : Cond.methodLink "CentrifugeUnit$Model" 27 ⟨"java/lang/Math", "max", "(JJ)J"⟩ ∈ xw := xw_of (List.mem_append_right _ (List.mem_of_getElem? (i := 729) (by decide +kernel))) rfl
set_option maxRecDepth 20000 in
theorem tw_730 : Cond.static ⟨"java/lang/Math", "max", "(JJ)J"⟩ ∈ xw := xw_of (List.mem_append_right _ (List.mem_of_getElem? (i := 730) (by decide +kernel))) rfl
set_option maxRecDepth 20000 in
theorem tw_731 : Cond.code ⟨"java/lang/Math", "max", "(JJ)J"⟩ prog_17_method_66_code 4 (Option.some Jvm.ClassFile.FieldType.long) ∈ xw := xw_of (List.mem_append_right _ (List.mem_of_getElem? (i := 731) (by decide +kernel))) rfl
set_option maxRecDepth 20000 in
theorem tw_824 : Cond.lays "CentrifugeUnitModel" "CentrifugeUnitModel" "thrown" "I" ∈ xw := xw_of (List.mem_append_right _ (List.mem_of_getElem? (i := 824) (by decide +kernel))) rfl
set_option maxRecDepth 20000 in
theorem tw_826 : Cond.laysFinal "CentrifugeUnitModel" "CentrifugeUnitModel" "told" "[Z" ∈ xw := xw_of (List.mem_append_right _ (List.mem_of_getElem? (i := 826) (by decide +kernel))) rfl
set_option maxRecDepth 20000 in
theorem tw_828 : Cond.laysFinal "CentrifugeUnitModel" "CentrifugeUnitModel" "pattern" "[I" ∈ xw := xw_of (List.mem_append_right _ (List.mem_of_getElem? (i := 828) (by decide +kernel))) rfl
set_option maxRecDepth 20000 in
theorem tw_830 : Cond.laysFinal "CentrifugeUnitModel" "CentrifugeUnitModel" "radius" "[I" ∈ xw := xw_of (List.mem_append_right _ (List.mem_of_getElem? (i := 830) (by decide +kernel))) rfl
set_option maxRecDepth 20000 in
theorem tw_832 : Cond.laysFinal "CentrifugeUnitModel" "CentrifugeUnitModel" "limit" "[I" ∈ xw := xw_of (List.mem_append_right _ (List.mem_of_getElem? (i := 832) (by decide +kernel))) rfl
set_option maxRecDepth 20000 in
theorem tw_834 : Cond.laysFinal "CentrifugeUnitModel" "CentrifugeUnitModel" "inertia" "[I" ∈ xw := xw_of (List.mem_append_right _ (List.mem_of_getElem? (i := 834) (by decide +kernel))) rfl
set_option maxRecDepth 20000 in
theorem tw_836 : Cond.lays "CentrifugeUnitModel" "CentrifugeUnitModel" "inside" "I" ∈ xw := xw_of (List.mem_append_right _ (List.mem_of_getElem? (i := 836) (by decide +kernel))) rfl
set_option maxRecDepth 20000 in
theorem tw_838 : Cond.laysFinal "CentrifugeUnitModel" "CentrifugeUnitModel" "kind" "[I" ∈ xw := xw_of (List.mem_append_right _ (List.mem_of_getElem? (i := 838) (by decide +kernel))) rfl
set_option maxRecDepth 20000 in
theorem tw_840 : Cond.laysFinal "CentrifugeUnitModel" "CentrifugeUnitModel" "goalOf" "[I" ∈ xw := xw_of (List.mem_append_right _ (List.mem_of_getElem? (i := 840) (by decide +kernel))) rfl
set_option maxRecDepth 20000 in
theorem tw_842 : Cond.laysFinal "CentrifugeUnitModel" "CentrifugeUnitModel" "slope" "[I" ∈ xw := xw_of (List.mem_append_right _ (List.mem_of_getElem? (i := 842) (by decide +kernel))) rfl
set_option maxRecDepth 20000 in
theorem tw_844 : Cond.lays "CentrifugeUnitModel" "CentrifugeUnitModel" "segments" "I" ∈ xw := xw_of (List.mem_append_right _ (List.mem_of_getElem? (i := 844) (by decide +kernel))) rfl
set_option maxRecDepth 20000 in
theorem tw_846 : Cond.lays "CentrifugeUnitModel" "CentrifugeUnitModel" "speed" "J" ∈ xw := xw_of (List.mem_append_right _ (List.mem_of_getElem? (i := 846) (by decide +kernel))) rfl
set_option maxRecDepth 20000 in
theorem tw_848 : Cond.lays "CentrifugeUnitModel" "CentrifugeUnitModel" "drive" "I" ∈ xw := xw_of (List.mem_append_right _ (List.mem_of_getElem? (i := 848) (by decide +kernel))) rfl
set_option maxRecDepth 20000 in
theorem tw_850 : Cond.lays "CentrifugeUnitModel" "CentrifugeUnitModel" "brake" "I" ∈ xw := xw_of (List.mem_append_right _ (List.mem_of_getElem? (i := 850) (by decide +kernel))) rfl
set_option maxRecDepth 20000 in
theorem tw_852 : Cond.lays "CentrifugeUnitModel" "CentrifugeUnitModel" "fed" "Z" ∈ xw := xw_of (List.mem_append_right _ (List.mem_of_getElem? (i := 852) (by decide +kernel))) rfl
set_option maxRecDepth 20000 in
theorem tw_854 : Cond.lays "CentrifugeUnitModel" "CentrifugeUnitModel" "coil" "I" ∈ xw := xw_of (List.mem_append_right _ (List.mem_of_getElem? (i := 854) (by decide +kernel))) rfl
set_option maxRecDepth 20000 in
theorem tw_856 : Cond.lays "CentrifugeUnitModel" "CentrifugeUnitModel" "tacho" "I" ∈ xw := xw_of (List.mem_append_right _ (List.mem_of_getElem? (i := 856) (by decide +kernel))) rfl
set_option maxRecDepth 20000 in
theorem tw_858 : Cond.lays "CentrifugeUnitModel" "CentrifugeUnitModel" "counter" "I" ∈ xw := xw_of (List.mem_append_right _ (List.mem_of_getElem? (i := 858) (by decide +kernel))) rfl
set_option maxRecDepth 20000 in
theorem tw_860 : Cond.lays "CentrifugeUnitModel" "CentrifugeUnitModel" "first" "J" ∈ xw := xw_of (List.mem_append_right _ (List.mem_of_getElem? (i := 860) (by decide +kernel))) rfl
set_option maxRecDepth 20000 in
theorem tw_862 : Cond.lays "CentrifugeUnitModel" "CentrifugeUnitModel" "second" "J" ∈ xw := xw_of (List.mem_append_right _ (List.mem_of_getElem? (i := 862) (by decide +kernel))) rfl
set_option maxRecDepth 20000 in
theorem tw_864 : Cond.lays "CentrifugeUnitModel" "CentrifugeUnitModel" "used" "J" ∈ xw := xw_of (List.mem_append_right _ (List.mem_of_getElem? (i := 864) (by decide +kernel))) rfl
set_option maxRecDepth 20000 in
theorem tw_866 : Cond.lays "CentrifugeUnitModel" "CentrifugeUnitModel" "power" "Z" ∈ xw := xw_of (List.mem_append_right _ (List.mem_of_getElem? (i := 866) (by decide +kernel))) rfl
set_option maxRecDepth 20000 in
theorem tw_868 : Cond.lays "CentrifugeUnitModel" "CentrifugeUnitModel" "state" "I" ∈ xw := xw_of (List.mem_append_right _ (List.mem_of_getElem? (i := 868) (by decide +kernel))) rfl
set_option maxRecDepth 20000 in
theorem tw_870 : Cond.lays "CentrifugeUnitModel" "CentrifugeUnitModel" "reason" "I" ∈ xw := xw_of (List.mem_append_right _ (List.mem_of_getElem? (i := 870) (by decide +kernel))) rfl
set_option maxRecDepth 20000 in
theorem tw_872 : Cond.lays "CentrifugeUnitModel" "CentrifugeUnitModel" "segment" "I" ∈ xw := xw_of (List.mem_append_right _ (List.mem_of_getElem? (i := 872) (by decide +kernel))) rfl
set_option maxRecDepth 20000 in
theorem tw_874 : Cond.lays "CentrifugeUnitModel" "CentrifugeUnitModel" "passed" "I" ∈ xw := xw_of (List.mem_append_right _ (List.mem_of_getElem? (i := 874) (by decide +kernel))) rfl
set_option maxRecDepth 20000 in
theorem tw_876 : Cond.lays "CentrifugeUnitModel" "CentrifugeUnitModel" "goal" "J" ∈ xw := xw_of (List.mem_append_right _ (List.mem_of_getElem? (i := 876) (by decide +kernel))) rfl
set_option maxRecDepth 20000 in
theorem tw_878 : Cond.lays "CentrifugeUnitModel" "CentrifugeUnitModel" "dose" "J" ∈ xw := xw_of (List.mem_append_right _ (List.mem_of_getElem? (i := 878) (by decide +kernel))) rfl
set_option maxRecDepth 20000 in
theorem tw_880 : Cond.lays "CentrifugeUnitModel" "CentrifugeUnitModel" "sum" "J" ∈ xw := xw_of (List.mem_append_right _ (List.mem_of_getElem? (i := 880) (by decide +kernel))) rfl
set_option maxRecDepth 20000 in
theorem tw_882 : Cond.lays "CentrifugeUnitModel" "CentrifugeUnitModel" "any" "Z" ∈ xw := xw_of (List.mem_append_right _ (List.mem_of_getElem? (i := 882) (by decide +kernel))) rfl
set_option maxRecDepth 20000 in
theorem tw_884 : Cond.lays "CentrifugeUnitModel" "CentrifugeUnitModel" "firstPattern" "I" ∈ xw := xw_of (List.mem_append_right _ (List.mem_of_getElem? (i := 884) (by decide +kernel))) rfl
set_option maxRecDepth 20000 in
theorem tw_886 : Cond.lays "CentrifugeUnitModel" "CentrifugeUnitModel" "rotor" "I" ∈ xw := xw_of (List.mem_append_right _ (List.mem_of_getElem? (i := 886) (by decide +kernel))) rfl
set_option maxRecDepth 20000 in
theorem tw_888 : Cond.lays "CentrifugeUnitModel" "CentrifugeUnitModel" "wrongPattern" "Z" ∈ xw := xw_of (List.mem_append_right _ (List.mem_of_getElem? (i := 888) (by decide +kernel))) rfl
set_option maxRecDepth 20000 in
theorem tw_890 : Cond.lays "CentrifugeUnitModel" "CentrifugeUnitModel" "resting" "I" ∈ xw := xw_of (List.mem_append_right _ (List.mem_of_getElem? (i := 890) (by decide +kernel))) rfl
set_option maxRecDepth 20000 in
theorem tw_892 : Cond.lays "CentrifugeUnitModel" "CentrifugeUnitModel" "shaking" "I" ∈ xw := xw_of (List.mem_append_right _ (List.mem_of_getElem? (i := 892) (by decide +kernel))) rfl
set_option maxRecDepth 20000 in
theorem tw_894 : Cond.lays "CentrifugeUnitModel" "CentrifugeUnitModel" "apart" "I" ∈ xw := xw_of (List.mem_append_right _ (List.mem_of_getElem? (i := 894) (by decide +kernel))) rfl
set_option maxRecDepth 20000 in
theorem tw_896 : Cond.lays "CentrifugeUnitModel" "CentrifugeUnitModel" "contactA" "Z" ∈ xw := xw_of (List.mem_append_right _ (List.mem_of_getElem? (i := 896) (by decide +kernel))) rfl
set_option maxRecDepth 20000 in
theorem tw_898 : Cond.lays "CentrifugeUnitModel" "CentrifugeUnitModel" "contactB" "Z" ∈ xw := xw_of (List.mem_append_right _ (List.mem_of_getElem? (i := 898) (by decide +kernel))) rfl
set_option maxRecDepth 20000 in
theorem tw_900 : Cond.lays "CentrifugeUnitModel" "CentrifugeUnitModel" "level" "I" ∈ xw := xw_of (List.mem_append_right _ (List.mem_of_getElem? (i := 900) (by decide +kernel))) rfl
set_option maxRecDepth 20000 in
theorem tw_902 : Cond.lays "CentrifugeUnitModel" "CentrifugeUnitModel" "chamber" "I" ∈ xw := xw_of (List.mem_append_right _ (List.mem_of_getElem? (i := 902) (by decide +kernel))) rfl
set_option maxRecDepth 20000 in
theorem tw_904 : Cond.lays "CentrifugeUnitModel" "CentrifugeUnitModel" "greatest" "J" ∈ xw := xw_of (List.mem_append_right _ (List.mem_of_getElem? (i := 904) (by decide +kernel))) rfl
set_option maxRecDepth 20000 in
theorem tw_906 : Cond.lays "CentrifugeUnitModel" "CentrifugeUnitModel" "records" "I" ∈ xw := xw_of (List.mem_append_right _ (List.mem_of_getElem? (i := 906) (by decide +kernel))) rfl
set_option maxRecDepth 20000 in
theorem tw_908 : Cond.laysFinal "CentrifugeUnitModel" "CentrifugeUnitModel" "reasonOf" "[J" ∈ xw := xw_of (List.mem_append_right _ (List.mem_of_getElem? (i := 908) (by decide +kernel))) rfl
set_option maxRecDepth 20000 in
theorem tw_910 : Cond.laysFinal "CentrifugeUnitModel" "CentrifugeUnitModel" "doseOf" "[J" ∈ xw := xw_of (List.mem_append_right _ (List.mem_of_getElem? (i := 910) (by decide +kernel))) rfl
set_option maxRecDepth 20000 in
theorem tw_912 : Cond.laysFinal "CentrifugeUnitModel" "CentrifugeUnitModel" "greatestOf" "[J" ∈ xw := xw_of (List.mem_append_right _ (List.mem_of_getElem? (i := 912) (by decide +kernel))) rfl
theorem xin0 : ∀ w ∈ u_ws "CentrifugeUnit$Control" xF0 14, w ∈ xw := List.forall_mem_cons.mpr ⟨tw_254, List.forall_mem_cons.mpr ⟨tw_256, List.forall_mem_cons.mpr ⟨tw_258, List.forall_mem_cons.mpr ⟨tw_260, List.forall_mem_cons.mpr ⟨tw_262, List.forall_mem_cons.mpr ⟨tw_264, List.forall_mem_cons.mpr ⟨tw_266, List.forall_mem_cons.mpr ⟨tw_268, List.forall_mem_cons.mpr ⟨tw_270, List.forall_mem_cons.mpr ⟨tw_272, List.forall_mem_cons.mpr ⟨tw_274, List.forall_mem_cons.mpr ⟨tw_276, List.forall_mem_cons.mpr ⟨tw_278, List.forall_mem_cons.mpr ⟨tw_280, fun _ h => absurd h List.not_mem_nil⟩⟩⟩⟩⟩⟩⟩⟩⟩⟩⟩⟩⟩⟩
theorem xin1 : ∀ w ∈ u_ws "CentrifugeUnit$Lid" xF1 3, w ∈ xw := List.forall_mem_cons.mpr ⟨tw_134, List.forall_mem_cons.mpr ⟨tw_136, List.forall_mem_cons.mpr ⟨tw_138, fun _ h => absurd h List.not_mem_nil⟩⟩⟩
theorem xin2 : ∀ w ∈ u_ws "CentrifugeUnit$Model" xF2 1, w ∈ xw := List.forall_mem_cons.mpr ⟨tw_86, fun _ h => absurd h List.not_mem_nil⟩
theorem xin3 : ∀ w ∈ u_ws "CentrifugeUnit$Program" xF3 4, w ∈ xw := List.forall_mem_cons.mpr ⟨tw_69, List.forall_mem_cons.mpr ⟨tw_71, List.forall_mem_cons.mpr ⟨tw_73, List.forall_mem_cons.mpr ⟨tw_75, fun _ h => absurd h List.not_mem_nil⟩⟩⟩⟩
theorem xin4 : ∀ w ∈ u_ws "CentrifugeUnit$Records" xF4 4, w ∈ xw := List.forall_mem_cons.mpr ⟨tw_152, List.forall_mem_cons.mpr ⟨tw_154, List.forall_mem_cons.mpr ⟨tw_156, List.forall_mem_cons.mpr ⟨tw_158, fun _ h => absurd h List.not_mem_nil⟩⟩⟩⟩
theorem xin5 : ∀ w ∈ u_ws "CentrifugeUnit$Rotors" xF5 5, w ∈ xw := List.forall_mem_cons.mpr ⟨tw_43, List.forall_mem_cons.mpr ⟨tw_45, List.forall_mem_cons.mpr ⟨tw_47, List.forall_mem_cons.mpr ⟨tw_49, List.forall_mem_cons.mpr ⟨tw_51, fun _ h => absurd h List.not_mem_nil⟩⟩⟩⟩⟩
theorem xin6 : ∀ w ∈ u_ws "CentrifugeUnit$Run" xF6 8, w ∈ xw := List.forall_mem_cons.mpr ⟨tw_214, List.forall_mem_cons.mpr ⟨tw_216, List.forall_mem_cons.mpr ⟨tw_218, List.forall_mem_cons.mpr ⟨tw_220, List.forall_mem_cons.mpr ⟨tw_222, List.forall_mem_cons.mpr ⟨tw_224, List.forall_mem_cons.mpr ⟨tw_226, List.forall_mem_cons.mpr ⟨tw_228, fun _ h => absurd h List.not_mem_nil⟩⟩⟩⟩⟩⟩⟩⟩
theorem xin7 : ∀ w ∈ u_ws "CentrifugeUnit$Sensors" xF7 6, w ∈ xw := List.forall_mem_cons.mpr ⟨tw_110, List.forall_mem_cons.mpr ⟨tw_112, List.forall_mem_cons.mpr ⟨tw_114, List.forall_mem_cons.mpr ⟨tw_116, List.forall_mem_cons.mpr ⟨tw_118, List.forall_mem_cons.mpr ⟨tw_120, fun _ h => absurd h List.not_mem_nil⟩⟩⟩⟩⟩⟩
theorem xin8 : ∀ w ∈ u_ws "CentrifugeUnit$Watch" xF8 4, w ∈ xw := List.forall_mem_cons.mpr ⟨tw_179, List.forall_mem_cons.mpr ⟨tw_181, List.forall_mem_cons.mpr ⟨tw_183, List.forall_mem_cons.mpr ⟨tw_185, fun _ h => absurd h List.not_mem_nil⟩⟩⟩⟩
theorem xin9 : ∀ w ∈ u_ws "CentrifugeUnit" xF9 7, w ∈ xw := List.forall_mem_cons.mpr ⟨tw_290, List.forall_mem_cons.mpr ⟨tw_292, List.forall_mem_cons.mpr ⟨tw_294, List.forall_mem_cons.mpr ⟨tw_296, List.forall_mem_cons.mpr ⟨tw_298, List.forall_mem_cons.mpr ⟨tw_300, List.forall_mem_cons.mpr ⟨tw_302, fun _ h => absurd h List.not_mem_nil⟩⟩⟩⟩⟩⟩⟩
theorem xin10 : ∀ w ∈ u_ws "CentrifugeUnitModel" xF10 45, w ∈ xw := List.forall_mem_cons.mpr ⟨tw_824, List.forall_mem_cons.mpr ⟨tw_826, List.forall_mem_cons.mpr ⟨tw_828, List.forall_mem_cons.mpr ⟨tw_830, List.forall_mem_cons.mpr ⟨tw_832, List.forall_mem_cons.mpr ⟨tw_834, List.forall_mem_cons.mpr ⟨tw_836, List.forall_mem_cons.mpr ⟨tw_838, List.forall_mem_cons.mpr ⟨tw_840, List.forall_mem_cons.mpr ⟨tw_842, List.forall_mem_cons.mpr ⟨tw_844, List.forall_mem_cons.mpr ⟨tw_846, List.forall_mem_cons.mpr ⟨tw_848, List.forall_mem_cons.mpr ⟨tw_850, List.forall_mem_cons.mpr ⟨tw_852, List.forall_mem_cons.mpr ⟨tw_854, List.forall_mem_cons.mpr ⟨tw_856, List.forall_mem_cons.mpr ⟨tw_858, List.forall_mem_cons.mpr ⟨tw_860, List.forall_mem_cons.mpr ⟨tw_862, List.forall_mem_cons.mpr ⟨tw_864, List.forall_mem_cons.mpr ⟨tw_866, List.forall_mem_cons.mpr ⟨tw_868, List.forall_mem_cons.mpr ⟨tw_870, List.forall_mem_cons.mpr ⟨tw_872, List.forall_mem_cons.mpr ⟨tw_874, List.forall_mem_cons.mpr ⟨tw_876, List.forall_mem_cons.mpr ⟨tw_878, List.forall_mem_cons.mpr ⟨tw_880, List.forall_mem_cons.mpr ⟨tw_882, List.forall_mem_cons.mpr ⟨tw_884, List.forall_mem_cons.mpr ⟨tw_886, List.forall_mem_cons.mpr ⟨tw_888, List.forall_mem_cons.mpr ⟨tw_890, List.forall_mem_cons.mpr ⟨tw_892, List.forall_mem_cons.mpr ⟨tw_894, List.forall_mem_cons.mpr ⟨tw_896, List.forall_mem_cons.mpr ⟨tw_898, List.forall_mem_cons.mpr ⟨tw_900, List.forall_mem_cons.mpr ⟨tw_902, List.forall_mem_cons.mpr ⟨tw_904, List.forall_mem_cons.mpr ⟨tw_906, List.forall_mem_cons.mpr ⟨tw_908, List.forall_mem_cons.mpr ⟨tw_910, List.forall_mem_cons.mpr ⟨tw_912, fun _ h => absurd h List.not_mem_nil⟩⟩⟩⟩⟩⟩⟩⟩⟩⟩⟩⟩⟩⟩⟩⟩⟩⟩⟩⟩⟩⟩⟩⟩⟩⟩⟩⟩⟩⟩⟩⟩⟩⟩⟩⟩⟩⟩⟩⟩⟩⟩⟩⟩⟩
end
section
abbrev bc_Watch_atRest : ByteArray := prog_10_method_4_code
def y_Watch_atRest : MethodName := ⟨"CentrifugeUnit$Watch", "atRest", "()Z"⟩
theorem d_Watch_atRest_0 : decode bc_Watch_atRest 0 = .ok (.aload_n 0, 1) := by decide +kernel
theorem d_Watch_atRest_1 : decode bc_Watch_atRest 1 = .ok (.getfield 16, 3) := by decide +kernel
theorem d_Watch_atRest_4 : decode bc_Watch_atRest 4 = .ok (.bipush 25, 2) := by decide +kernel
theorem d_Watch_atRest_6 : decode bc_Watch_atRest 6 = .ok (.if_icmp .lt 7, 3) := by decide +kernel
theorem d_Watch_atRest_9 : decode bc_Watch_atRest 9 = .ok (.iconst 1, 1) := by decide +kernel
theorem d_Watch_atRest_10 : decode bc_Watch_atRest 10 = .ok (.goto 4, 3) := by decide +kernel
theorem d_Watch_atRest_13 : decode bc_Watch_atRest 13 = .ok (.iconst 0, 1) := by decide +kernel
theorem d_Watch_atRest_14 : decode bc_Watch_atRest 14 = .ok (.ireturn, 1) := by decide +kernel
def F_Watch_atRest (M : XM) : Int32 := (if (M.1 20) < 25 then 0 else 1)
theorem f01_Watch_atRest (M : XM) : F_Watch_atRest M = 0 ∨ F_Watch_atRest M = 1 := by
  simp only [F_Watch_atRest]; repeat' split
  all_goals first | exact Or.inl rfl | exact Or.inr rfl | simp
set_option maxHeartbeats 4000000 in
set_option maxRecDepth 100000 in
theorem c_Watch_atRest (l : Launch) (dC : Nat → ClassId) (dI : Nat → Nat → Nat) (Z : Nat → ClassId) (A : Nat → Nat) (sz : Nat) (M : XM) : Met l y_Watch_atRest (.code y_Watch_atRest bc_Watch_atRest 1 (some .boolean) :: xw) ({ frames := 0, cells := 0, slots := 0, locals := 0 }) (va_Pc [.ref (A 18)] (xB (dC, dI) xcl (xty Z) sz [(A 18, xc18 Z A M)])) (k2_QcV (.int (F_Watch_atRest M))) 0 0 (fun _ => False) := by
  refine Met.ofW (cc := bc_Watch_atRest) (maxL := 1) (ret := (some .boolean)) (by decide) rfl ?_
  intro p e s m args below meth c s₁ B hml hv
  obtain ⟨rfl, hsz, hP, hK, hD0, hq⟩ := hv
  have hx := B.exec
  have hb := B.bytes
  have hr := B.returns
  have hts := atoms_spec (ws := (.code y_Watch_atRest bc_Watch_atRest 1 (some .boolean) :: xw)) B.pre
  have htt : ∀ w ∈ xw, w.before _ s = true := fun w h => hts w (List.mem_cons_of_mem _ h)
  have hown : s.vm.findClass "CentrifugeUnit$Watch" = some m.cls := findClass_of_methodNamed B.named
  have hlocks := B.notSynchronized
  subst hsz
  have hD : va_D (fun _ => True) [(A 18, .inr (8, [.int (M.1 19), .int (M.1 20), .int (M.1 21), .int (M.1 22)]))] := hD0
  have hP : va_P (dC, dI) xcl [(A 18, .inr (8, [.int (M.1 19), .int (M.1 20), .int (M.1 21), .int (M.1 22)]))] s.heap := hP
  have hl := lv_entry ([.ref (A 18)]) (n := 1) (Nat.le_of_ble_eq_true rfl)
  rw [lg_entry_eq]
  generalize (lg_sl ([.ref (A 18)]) ++ List.replicate (1 - (lg_sl ([.ref (A 18)])).length) Slot.unset).toArray = ls at hl ⊢
  have hl : lv_has ls 1 [(0, .ref (A 18))] := hl
  refine lv_aload_n hx hb d_Watch_atRest_0 rfl (lv_at hl 0 rfl) ?_
  refine va_get (D := (dC, dI)) (ci := 8) (v := .int (M.1 20)) (C := "CentrifugeUnit$Watch") (T := xF8) (N := 4) hx hb htt xin8 hown hK hP 0 rfl rfl 1 (by decide) (htt _ tw_176) (fun _ h9 => h9) rfl d_Watch_atRest_1 ?_
  refine lv_bipush (v := 25) hx hb d_Watch_atRest_4 (by decide) ?_
  refine lv_icmp_lt (tgt := 13) hx hb d_Watch_atRest_6 rfl (fun h1 => ?_) (fun h1 => ?_)
  · refine lv_iconst (v := 0) hx hb d_Watch_atRest_13 (by decide) ?_
    exact W.zret (ty := .boolean) hx hb hr rfl (fun t ht hW => ⟨(by rw [F_Watch_atRest, if_pos h1]), ht⟩) (fun _ h => absurd h List.not_mem_nil) d_Watch_atRest_14
  · refine lv_iconst (v := 1) hx hb d_Watch_atRest_9 (by decide) ?_
    refine lv_goto (tgt := 14) hx hb d_Watch_atRest_10 rfl ?_
    exact W.zret (ty := .boolean) hx hb hr rfl (fun t ht hW => ⟨(by rw [F_Watch_atRest, if_neg h1]), ht⟩) (fun _ h => absurd h List.not_mem_nil) d_Watch_atRest_14
abbrev bc_Watch_shakesTooLong : ByteArray := prog_10_method_5_code
def y_Watch_shakesTooLong : MethodName := ⟨"CentrifugeUnit$Watch", "shakesTooLong", "()Z"⟩
theorem d_Watch_shakesTooLong_0 : decode bc_Watch_shakesTooLong 0 = .ok (.aload_n 0, 1) := by decide +kernel
theorem d_Watch_shakesTooLong_1 : decode bc_Watch_shakesTooLong 1 = .ok (.getfield 24, 3) := by decide +kernel
theorem d_Watch_shakesTooLong_4 : decode bc_Watch_shakesTooLong 4 = .ok (.iconst 5, 1) := by decide +kernel
theorem d_Watch_shakesTooLong_5 : decode bc_Watch_shakesTooLong 5 = .ok (.if_icmp .lt 7, 3) := by decide +kernel
theorem d_Watch_shakesTooLong_8 : decode bc_Watch_shakesTooLong 8 = .ok (.iconst 1, 1) := by decide +kernel
theorem d_Watch_shakesTooLong_9 : decode bc_Watch_shakesTooLong 9 = .ok (.goto 4, 3) := by decide +kernel
theorem d_Watch_shakesTooLong_12 : decode bc_Watch_shakesTooLong 12 = .ok (.iconst 0, 1) := by decide +kernel
theorem d_Watch_shakesTooLong_13 : decode bc_Watch_shakesTooLong 13 = .ok (.ireturn, 1) := by decide +kernel
def F_Watch_shakesTooLong (M : XM) : Int32 := (if (M.1 21) < 5 then 0 else 1)
theorem f01_Watch_shakesTooLong (M : XM) : F_Watch_shakesTooLong M = 0 ∨ F_Watch_shakesTooLong M = 1 := by
  simp only [F_Watch_shakesTooLong]; repeat' split
  all_goals first | exact Or.inl rfl | exact Or.inr rfl | simp
set_option maxHeartbeats 4000000 in
set_option maxRecDepth 100000 in
theorem c_Watch_shakesTooLong (l : Launch) (dC : Nat → ClassId) (dI : Nat → Nat → Nat) (Z : Nat → ClassId) (A : Nat → Nat) (sz : Nat) (M : XM) : Met l y_Watch_shakesTooLong (.code y_Watch_shakesTooLong bc_Watch_shakesTooLong 1 (some .boolean) :: xw) ({ frames := 0, cells := 0, slots := 0, locals := 0 }) (va_Pc [.ref (A 18)] (xB (dC, dI) xcl (xty Z) sz [(A 18, xc18 Z A M)])) (k2_QcV (.int (F_Watch_shakesTooLong M))) 0 0 (fun _ => False) := by
  refine Met.ofW (cc := bc_Watch_shakesTooLong) (maxL := 1) (ret := (some .boolean)) (by decide) rfl ?_
  intro p e s m args below meth c s₁ B hml hv
  obtain ⟨rfl, hsz, hP, hK, hD0, hq⟩ := hv
  have hx := B.exec
  have hb := B.bytes
  have hr := B.returns
  have hts := atoms_spec (ws := (.code y_Watch_shakesTooLong bc_Watch_shakesTooLong 1 (some .boolean) :: xw)) B.pre
  have htt : ∀ w ∈ xw, w.before _ s = true := fun w h => hts w (List.mem_cons_of_mem _ h)
  have hown : s.vm.findClass "CentrifugeUnit$Watch" = some m.cls := findClass_of_methodNamed B.named
  have hlocks := B.notSynchronized
  subst hsz
  have hD : va_D (fun _ => True) [(A 18, .inr (8, [.int (M.1 19), .int (M.1 20), .int (M.1 21), .int (M.1 22)]))] := hD0
  have hP : va_P (dC, dI) xcl [(A 18, .inr (8, [.int (M.1 19), .int (M.1 20), .int (M.1 21), .int (M.1 22)]))] s.heap := hP
  have hl := lv_entry ([.ref (A 18)]) (n := 1) (Nat.le_of_ble_eq_true rfl)
  rw [lg_entry_eq]
  generalize (lg_sl ([.ref (A 18)]) ++ List.replicate (1 - (lg_sl ([.ref (A 18)])).length) Slot.unset).toArray = ls at hl ⊢
  have hl : lv_has ls 1 [(0, .ref (A 18))] := hl
  refine lv_aload_n hx hb d_Watch_shakesTooLong_0 rfl (lv_at hl 0 rfl) ?_
  refine va_get (D := (dC, dI)) (ci := 8) (v := .int (M.1 21)) (C := "CentrifugeUnit$Watch") (T := xF8) (N := 4) hx hb htt xin8 hown hK hP 0 rfl rfl 2 (by decide) (htt _ tw_177) (fun _ h9 => h9) rfl d_Watch_shakesTooLong_1 ?_
  refine lv_iconst (v := 5) hx hb d_Watch_shakesTooLong_4 (by decide) ?_
  refine lv_icmp_lt (tgt := 12) hx hb d_Watch_shakesTooLong_5 rfl (fun h1 => ?_) (fun h1 => ?_)
  · refine lv_iconst (v := 0) hx hb d_Watch_shakesTooLong_12 (by decide) ?_
    exact W.zret (ty := .boolean) hx hb hr rfl (fun t ht hW => ⟨(by rw [F_Watch_shakesTooLong, if_pos h1]), ht⟩) (fun _ h => absurd h List.not_mem_nil) d_Watch_shakesTooLong_13
  · refine lv_iconst (v := 1) hx hb d_Watch_shakesTooLong_8 (by decide) ?_
    refine lv_goto (tgt := 13) hx hb d_Watch_shakesTooLong_9 rfl ?_
    exact W.zret (ty := .boolean) hx hb hr rfl (fun t ht hW => ⟨(by rw [F_Watch_shakesTooLong, if_neg h1]), ht⟩) (fun _ h => absurd h List.not_mem_nil) d_Watch_shakesTooLong_13
abbrev bc_Watch_differsTooLong : ByteArray := prog_10_method_6_code
def y_Watch_differsTooLong : MethodName := ⟨"CentrifugeUnit$Watch", "differsTooLong", "()Z"⟩
theorem d_Watch_differsTooLong_0 : decode bc_Watch_differsTooLong 0 = .ok (.aload_n 0, 1) := by decide +kernel
theorem d_Watch_differsTooLong_1 : decode bc_Watch_differsTooLong 1 = .ok (.getfield 27, 3) := by decide +kernel
theorem d_Watch_differsTooLong_4 : decode bc_Watch_differsTooLong 4 = .ok (.bipush 10, 2) := by decide +kernel
theorem d_Watch_differsTooLong_6 : decode bc_Watch_differsTooLong 6 = .ok (.if_icmp .lt 7, 3) := by decide +kernel
theorem d_Watch_differsTooLong_9 : decode bc_Watch_differsTooLong 9 = .ok (.iconst 1, 1) := by decide +kernel
theorem d_Watch_differsTooLong_10 : decode bc_Watch_differsTooLong 10 = .ok (.goto 4, 3) := by decide +kernel
theorem d_Watch_differsTooLong_13 : decode bc_Watch_differsTooLong 13 = .ok (.iconst 0, 1) := by decide +kernel
theorem d_Watch_differsTooLong_14 : decode bc_Watch_differsTooLong 14 = .ok (.ireturn, 1) := by decide +kernel
def F_Watch_differsTooLong (M : XM) : Int32 := (if (M.1 22) < 10 then 0 else 1)
theorem f01_Watch_differsTooLong (M : XM) : F_Watch_differsTooLong M = 0 ∨ F_Watch_differsTooLong M = 1 := by
  simp only [F_Watch_differsTooLong]; repeat' split
  all_goals first | exact Or.inl rfl | exact Or.inr rfl | simp
set_option maxHeartbeats 4000000 in
set_option maxRecDepth 100000 in
theorem c_Watch_differsTooLong (l : Launch) (dC : Nat → ClassId) (dI : Nat → Nat → Nat) (Z : Nat → ClassId) (A : Nat → Nat) (sz : Nat) (M : XM) : Met l y_Watch_differsTooLong (.code y_Watch_differsTooLong bc_Watch_differsTooLong 1 (some .boolean) :: xw) ({ frames := 0, cells := 0, slots := 0, locals := 0 }) (va_Pc [.ref (A 18)] (xB (dC, dI) xcl (xty Z) sz [(A 18, xc18 Z A M)])) (k2_QcV (.int (F_Watch_differsTooLong M))) 0 0 (fun _ => False) := by
  refine Met.ofW (cc := bc_Watch_differsTooLong) (maxL := 1) (ret := (some .boolean)) (by decide) rfl ?_
  intro p e s m args below meth c s₁ B hml hv
  obtain ⟨rfl, hsz, hP, hK, hD0, hq⟩ := hv
  have hx := B.exec
  have hb := B.bytes
  have hr := B.returns
  have hts := atoms_spec (ws := (.code y_Watch_differsTooLong bc_Watch_differsTooLong 1 (some .boolean) :: xw)) B.pre
  have htt : ∀ w ∈ xw, w.before _ s = true := fun w h => hts w (List.mem_cons_of_mem _ h)
  have hown : s.vm.findClass "CentrifugeUnit$Watch" = some m.cls := findClass_of_methodNamed B.named
  have hlocks := B.notSynchronized
  subst hsz
  have hD : va_D (fun _ => True) [(A 18, .inr (8, [.int (M.1 19), .int (M.1 20), .int (M.1 21), .int (M.1 22)]))] := hD0
  have hP : va_P (dC, dI) xcl [(A 18, .inr (8, [.int (M.1 19), .int (M.1 20), .int (M.1 21), .int (M.1 22)]))] s.heap := hP
  have hl := lv_entry ([.ref (A 18)]) (n := 1) (Nat.le_of_ble_eq_true rfl)
  rw [lg_entry_eq]
  generalize (lg_sl ([.ref (A 18)]) ++ List.replicate (1 - (lg_sl ([.ref (A 18)])).length) Slot.unset).toArray = ls at hl ⊢
  have hl : lv_has ls 1 [(0, .ref (A 18))] := hl
  refine lv_aload_n hx hb d_Watch_differsTooLong_0 rfl (lv_at hl 0 rfl) ?_
  refine va_get (D := (dC, dI)) (ci := 8) (v := .int (M.1 22)) (C := "CentrifugeUnit$Watch") (T := xF8) (N := 4) hx hb htt xin8 hown hK hP 0 rfl rfl 3 (by decide) (htt _ tw_178) (fun _ h9 => h9) rfl d_Watch_differsTooLong_1 ?_
  refine lv_bipush (v := 10) hx hb d_Watch_differsTooLong_4 (by decide) ?_
  refine lv_icmp_lt (tgt := 13) hx hb d_Watch_differsTooLong_6 rfl (fun h1 => ?_) (fun h1 => ?_)
  · refine lv_iconst (v := 0) hx hb d_Watch_differsTooLong_13 (by decide) ?_
    exact W.zret (ty := .boolean) hx hb hr rfl (fun t ht hW => ⟨(by rw [F_Watch_differsTooLong, if_pos h1]), ht⟩) (fun _ h => absurd h List.not_mem_nil) d_Watch_differsTooLong_14
  · refine lv_iconst (v := 1) hx hb d_Watch_differsTooLong_9 (by decide) ?_
    refine lv_goto (tgt := 14) hx hb d_Watch_differsTooLong_10 rfl ?_
    exact W.zret (ty := .boolean) hx hb hr rfl (fun t ht hW => ⟨(by rw [F_Watch_differsTooLong, if_neg h1]), ht⟩) (fun _ h => absurd h List.not_mem_nil) d_Watch_differsTooLong_14
abbrev bc_Watch_forget : ByteArray := prog_10_method_3_code
def y_Watch_forget : MethodName := ⟨"CentrifugeUnit$Watch", "forget", "()V"⟩
theorem d_Watch_forget_0 : decode bc_Watch_forget 0 = .ok (.aload_n 0, 1) := by decide +kernel
theorem d_Watch_forget_1 : decode bc_Watch_forget 1 = .ok (.iconst 0, 1) := by decide +kernel
theorem d_Watch_forget_2 : decode bc_Watch_forget 2 = .ok (.putfield 16, 3) := by decide +kernel
theorem d_Watch_forget_5 : decode bc_Watch_forget 5 = .ok (.aload_n 0, 1) := by decide +kernel
theorem d_Watch_forget_6 : decode bc_Watch_forget 6 = .ok (.iconst 0, 1) := by decide +kernel
theorem d_Watch_forget_7 : decode bc_Watch_forget 7 = .ok (.putfield 24, 3) := by decide +kernel
theorem d_Watch_forget_10 : decode bc_Watch_forget 10 = .ok (.aload_n 0, 1) := by decide +kernel
theorem d_Watch_forget_11 : decode bc_Watch_forget 11 = .ok (.iconst 0, 1) := by decide +kernel
theorem d_Watch_forget_12 : decode bc_Watch_forget 12 = .ok (.putfield 27, 3) := by decide +kernel
theorem d_Watch_forget_15 : decode bc_Watch_forget 15 = .ok (.return_, 1) := by decide +kernel
abbrev ap_Watch_forget (M : XM) (u : (Int32 × Int32 × Int32)) : XM := ((va_up (va_up (va_up M.1 20 (u.1)) 21 (u.2.1)) 22 (u.2.2)), M.2)
def F_Watch_forget (M : XM) : (Int32 × Int32 × Int32) := (0, 0, 0)
set_option maxHeartbeats 4000000 in
set_option maxRecDepth 100000 in
theorem c_Watch_forget (l : Launch) (dC : Nat → ClassId) (dI : Nat → Nat → Nat) (Z : Nat → ClassId) (A : Nat → Nat) (sz : Nat) (M : XM) : Met l y_Watch_forget (.code y_Watch_forget bc_Watch_forget 1 none :: xw) ({ frames := 0, cells := 0, slots := 0, locals := 0 }) (va_Pc [.ref (A 18)] (xB (dC, dI) xcl (xty Z) sz [(A 18, xc18 Z A M)])) (va_Qv (fun u : (Int32 × Int32 × Int32) => u = F_Watch_forget M) (fun u => xE (dC, dI) xcl (xty Z) (va_A [(A 18, xc18 Z A M)] sz) [(A 18, xc18 Z A (ap_Watch_forget M u))]) (va_A [(A 18, xc18 Z A M)] sz)) 0 0 (va_A [(A 18, xc18 Z A M)] sz) := by
  refine Met.ofW (cc := bc_Watch_forget) (maxL := 1) (ret := none) (by decide) rfl ?_
  intro p e s m args below meth c s₁ B hml hv
  obtain ⟨rfl, hsz, hP, hK, hD0, hq⟩ := hv
  have hx := B.exec
  have hb := B.bytes
  have hr := B.returns
  have hts := atoms_spec (ws := (.code y_Watch_forget bc_Watch_forget 1 none :: xw)) B.pre
  have htt : ∀ w ∈ xw, w.before _ s = true := fun w h => hts w (List.mem_cons_of_mem _ h)
  have hown : s.vm.findClass "CentrifugeUnit$Watch" = some m.cls := findClass_of_methodNamed B.named
  have hlocks := B.notSynchronized
  subst hsz
  have hD := hD0.self (sz := s.heap.size)
  generalize hAe : va_A [(A 18, xc18 Z A M)] s.heap.size = AA at hD ⊢
  have hA : ∀ q : Nat, s.heap.size ≤ q → AA q := fun q h => by rw [← hAe]; exact Or.inr h
  have hS : va_S AA s.heap s.heap [] := va_S.rf
  have hP : va_P (dC, dI) xcl [(A 18, .inr (8, [.int (M.1 19), .int (M.1 20), .int (M.1 21), .int (M.1 22)]))] s.heap := hP
  have hD : va_D AA [(A 18, .inr (8, [.int (M.1 19), .int (M.1 20), .int (M.1 21), .int (M.1 22)]))] := hD
  have hl := lv_entry ([.ref (A 18)]) (n := 1) (Nat.le_of_ble_eq_true rfl)
  rw [lg_entry_eq]
  generalize (lg_sl ([.ref (A 18)]) ++ List.replicate (1 - (lg_sl ([.ref (A 18)])).length) Slot.unset).toArray = ls at hl ⊢
  have hl : lv_has ls 1 [(0, .ref (A 18))] := hl
  refine lv_aload_n hx hb d_Watch_forget_0 rfl (lv_at hl 0 rfl) ?_
  refine lv_iconst (v := 0) hx hb d_Watch_forget_1 (by decide) ?_
  refine va_put (D := (dC, dI)) (ci := 8) (v := .int 0) (ty := .int) (C := "CentrifugeUnit$Watch") (T := xF8) (N := 4) hx hb htt xin8 xT8 xTo8 xNm8 hown hK hP hD hS 0 rfl rfl 1 (by decide) (htt _ tw_176) (fun _ h9 => h9) rfl (by decide +kernel) rfl rfl (Nat.le_of_ble_eq_true rfl) d_Watch_forget_2 (fun H locs hP hD hS => ?_)
  have hP : va_P (dC, dI) xcl [(A 18, .inr (8, [.int (M.1 19), .int 0, .int (M.1 21), .int (M.1 22)]))] H := hP
  have hD : va_D AA [(A 18, .inr (8, [.int (M.1 19), .int 0, .int (M.1 21), .int (M.1 22)]))] := hD
  refine lv_aload_n hx hb d_Watch_forget_5 rfl (lv_at hl 0 rfl) ?_
  refine lv_iconst (v := 0) hx hb d_Watch_forget_6 (by decide) ?_
  refine va_put (D := (dC, dI)) (ci := 8) (v := .int 0) (ty := .int) (C := "CentrifugeUnit$Watch") (T := xF8) (N := 4) hx hb htt xin8 xT8 xTo8 xNm8 hown hK hP hD hS 0 rfl rfl 2 (by decide) (htt _ tw_177) (fun _ h9 => h9) rfl (by decide +kernel) rfl rfl (Nat.le_of_ble_eq_true rfl) d_Watch_forget_7 (fun H locs hP hD hS => ?_)
  have hP : va_P (dC, dI) xcl [(A 18, .inr (8, [.int (M.1 19), .int 0, .int 0, .int (M.1 22)]))] H := hP
  have hD : va_D AA [(A 18, .inr (8, [.int (M.1 19), .int 0, .int 0, .int (M.1 22)]))] := hD
  refine lv_aload_n hx hb d_Watch_forget_10 rfl (lv_at hl 0 rfl) ?_
  refine lv_iconst (v := 0) hx hb d_Watch_forget_11 (by decide) ?_
  refine va_put (D := (dC, dI)) (ci := 8) (v := .int 0) (ty := .int) (C := "CentrifugeUnit$Watch") (T := xF8) (N := 4) hx hb htt xin8 xT8 xTo8 xNm8 hown hK hP hD hS 0 rfl rfl 3 (by decide) (htt _ tw_178) (fun _ h9 => h9) rfl (by decide +kernel) rfl rfl (Nat.le_of_ble_eq_true rfl) d_Watch_forget_12 (fun H locs hP hD hS => ?_)
  have hP : va_P (dC, dI) xcl [(A 18, .inr (8, [.int (M.1 19), .int 0, .int 0, .int 0]))] H := hP
  have hD : va_D AA [(A 18, .inr (8, [.int (M.1 19), .int 0, .int 0, .int 0]))] := hD
  have hP9 := hP.sub (ws' := [(A 18, xc18 Z A (ap_Watch_forget M (0, 0, 0)))]) [0] rfl
  have hD9 := hD.sub (ws' := [(A 18, xc18 Z A (ap_Watch_forget M (0, 0, 0)))]) [0] (by decide) rfl
  exact W.vret hx hb hr (fun t ht hW => ⟨⟨(0, 0, 0), rfl, (by rw [F_Watch_forget]), xE_at hP9 hK hD9 ht hW⟩, hS.F ht⟩) hS.2.2 d_Watch_forget_15
abbrev bc_Watch_count : ByteArray := prog_10_method_2_code
def y_Watch_count : MethodName := ⟨"CentrifugeUnit$Watch", "count", "(LCentrifugeUnit$Sensors;)V"⟩
theorem d_Watch_count_0 : decode bc_Watch_count 0 = .ok (.aload_n 1, 1) := by decide +kernel
theorem d_Watch_count_1 : decode bc_Watch_count 1 = .ok (.getfield 7, 3) := by decide +kernel
theorem d_Watch_count_4 : decode bc_Watch_count 4 = .ok (.istore_n 2, 1) := by decide +kernel
theorem d_Watch_count_5 : decode bc_Watch_count 5 = .ok (.iload_n 2, 1) := by decide +kernel
theorem d_Watch_count_6 : decode bc_Watch_count 6 = .ok (.aload_n 1, 1) := by decide +kernel
theorem d_Watch_count_7 : decode bc_Watch_count 7 = .ok (.getfield 13, 3) := by decide +kernel
theorem d_Watch_count_10 : decode bc_Watch_count 10 = .ok (.isub, 1) := by decide +kernel
theorem d_Watch_count_11 : decode bc_Watch_count 11 = .ok (.istore_n 3, 1) := by decide +kernel
theorem d_Watch_count_12 : decode bc_Watch_count 12 = .ok (.aload_n 0, 1) := by decide +kernel
theorem d_Watch_count_13 : decode bc_Watch_count 13 = .ok (.iload_n 2, 1) := by decide +kernel
theorem d_Watch_count_14 : decode bc_Watch_count 14 = .ok (.ifCond .ne 12, 3) := by decide +kernel
theorem d_Watch_count_17 : decode bc_Watch_count 17 = .ok (.aload_n 0, 1) := by decide +kernel
theorem d_Watch_count_18 : decode bc_Watch_count 18 = .ok (.getfield 16, 3) := by decide +kernel
theorem d_Watch_count_21 : decode bc_Watch_count 21 = .ok (.iconst 1, 1) := by decide +kernel
theorem d_Watch_count_22 : decode bc_Watch_count 22 = .ok (.iadd, 1) := by decide +kernel
theorem d_Watch_count_23 : decode bc_Watch_count 23 = .ok (.goto 4, 3) := by decide +kernel
theorem d_Watch_count_26 : decode bc_Watch_count 26 = .ok (.iconst 0, 1) := by decide +kernel
theorem d_Watch_count_27 : decode bc_Watch_count 27 = .ok (.putfield 16, 3) := by decide +kernel
theorem d_Watch_count_30 : decode bc_Watch_count 30 = .ok (.aload_n 0, 1) := by decide +kernel
theorem d_Watch_count_31 : decode bc_Watch_count 31 = .ok (.aload_n 0, 1) := by decide +kernel
theorem d_Watch_count_32 : decode bc_Watch_count 32 = .ok (.getfield 21, 3) := by decide +kernel
theorem d_Watch_count_35 : decode bc_Watch_count 35 = .ok (.sipush 200, 3) := by decide +kernel
theorem d_Watch_count_38 : decode bc_Watch_count 38 = .ok (.iload_n 2, 1) := by decide +kernel
theorem d_Watch_count_39 : decode bc_Watch_count 39 = .ok (.bipush 20, 2) := by decide +kernel
theorem d_Watch_count_41 : decode bc_Watch_count 41 = .ok (.idiv, 1) := by decide +kernel
theorem d_Watch_count_42 : decode bc_Watch_count 42 = .ok (.iadd, 1) := by decide +kernel
theorem d_Watch_count_43 : decode bc_Watch_count 43 = .ok (.if_icmp .le 12, 3) := by decide +kernel
theorem d_Watch_count_46 : decode bc_Watch_count 46 = .ok (.aload_n 0, 1) := by decide +kernel
theorem d_Watch_count_47 : decode bc_Watch_count 47 = .ok (.getfield 24, 3) := by decide +kernel
theorem d_Watch_count_50 : decode bc_Watch_count 50 = .ok (.iconst 1, 1) := by decide +kernel
theorem d_Watch_count_51 : decode bc_Watch_count 51 = .ok (.iadd, 1) := by decide +kernel
theorem d_Watch_count_52 : decode bc_Watch_count 52 = .ok (.goto 4, 3) := by decide +kernel
theorem d_Watch_count_55 : decode bc_Watch_count 55 = .ok (.iconst 0, 1) := by decide +kernel
theorem d_Watch_count_56 : decode bc_Watch_count 56 = .ok (.putfield 24, 3) := by decide +kernel
theorem d_Watch_count_59 : decode bc_Watch_count 59 = .ok (.aload_n 0, 1) := by decide +kernel
theorem d_Watch_count_60 : decode bc_Watch_count 60 = .ok (.iload_n 3, 1) := by decide +kernel
theorem d_Watch_count_61 : decode bc_Watch_count 61 = .ok (.bipush 100, 2) := by decide +kernel
theorem d_Watch_count_63 : decode bc_Watch_count 63 = .ok (.iload_n 2, 1) := by decide +kernel
theorem d_Watch_count_64 : decode bc_Watch_count 64 = .ok (.bipush 10, 2) := by decide +kernel
theorem d_Watch_count_66 : decode bc_Watch_count 66 = .ok (.idiv, 1) := by decide +kernel
theorem d_Watch_count_67 : decode bc_Watch_count 67 = .ok (.iadd, 1) := by decide +kernel
theorem d_Watch_count_68 : decode bc_Watch_count 68 = .ok (.if_icmp .le 12, 3) := by decide +kernel
theorem d_Watch_count_71 : decode bc_Watch_count 71 = .ok (.aload_n 0, 1) := by decide +kernel
theorem d_Watch_count_72 : decode bc_Watch_count 72 = .ok (.getfield 27, 3) := by decide +kernel
theorem d_Watch_count_75 : decode bc_Watch_count 75 = .ok (.iconst 1, 1) := by decide +kernel
theorem d_Watch_count_76 : decode bc_Watch_count 76 = .ok (.iadd, 1) := by decide +kernel
theorem d_Watch_count_77 : decode bc_Watch_count 77 = .ok (.goto 4, 3) := by decide +kernel
theorem d_Watch_count_80 : decode bc_Watch_count 80 = .ok (.iconst 0, 1) := by decide +kernel
theorem d_Watch_count_81 : decode bc_Watch_count 81 = .ok (.putfield 27, 3) := by decide +kernel
theorem d_Watch_count_84 : decode bc_Watch_count 84 = .ok (.return_, 1) := by decide +kernel
abbrev ap_Watch_count (M : XM) (u : (Int32 × Int32 × Int32)) : XM := ((va_up (va_up (va_up M.1 20 (u.1)) 21 (u.2.1)) 22 (u.2.2)), M.2)
def F_Watch_count_k12 (M : XM) (j1 : Int32) (j5 : Int32) (j9 : Int32) : (Int32 × Int32 × Int32) := (j1, j5, j9)
def J_Watch_count_11 (M : XM) (j1 : Int32) (j5 : Int32) : Int32 := (if ((M.1 6) - (M.1 7)) ≤ (100 + ((M.1 6) / 10)) then 0 else ((M.1 22) + 1))
def F_Watch_count_k8 (M : XM) (j1 : Int32) (j5 : Int32) : (Int32 × Int32 × Int32) := (F_Watch_count_k12 M j1 j5 (J_Watch_count_11 M j1 j5))
def J_Watch_count_7 (M : XM) (j1 : Int32) : Int32 := (if (M.1 19) ≤ (200 + ((M.1 6) / 20)) then 0 else ((M.1 21) + 1))
def F_Watch_count_k4 (M : XM) (j1 : Int32) : (Int32 × Int32 × Int32) := (F_Watch_count_k8 M j1 (J_Watch_count_7 M j1))
def J_Watch_count_3 (M : XM) : Int32 := (if (M.1 6) = 0 then ((M.1 20) + 1) else 0)
def F_Watch_count (M : XM) : (Int32 × Int32 × Int32) := (F_Watch_count_k4 M (J_Watch_count_3 M))
set_option maxHeartbeats 4000000 in
set_option maxRecDepth 100000 in
theorem c_Watch_count (l : Launch) (dC : Nat → ClassId) (dI : Nat → Nat → Nat) (Z : Nat → ClassId) (A : Nat → Nat) (sz : Nat) (M : XM) : Met l y_Watch_count (.code y_Watch_count bc_Watch_count 4 none :: xw) ({ frames := 0, cells := 0, slots := 0, locals := 0 }) (va_Pc [.ref (A 18), .ref (A 11)] (xB (dC, dI) xcl (xty Z) sz [(A 18, xc18 Z A M), (A 11, xc11 Z A M)])) (va_Qv (fun u : (Int32 × Int32 × Int32) => u = F_Watch_count M) (fun u => xE (dC, dI) xcl (xty Z) (va_A [(A 18, xc18 Z A M), (A 11, xc11 Z A M)] sz) [(A 18, xc18 Z A (ap_Watch_count M u)), (A 11, xc11 Z A (ap_Watch_count M u))]) (va_A [(A 18, xc18 Z A M), (A 11, xc11 Z A M)] sz)) 0 0 (va_A [(A 18, xc18 Z A M), (A 11, xc11 Z A M)] sz) := by
  refine Met.ofW (cc := bc_Watch_count) (maxL := 4) (ret := none) (by decide) rfl ?_
  intro p e s m args below meth c s₁ B hml hv
  obtain ⟨rfl, hsz, hP, hK, hD0, hq⟩ := hv
  have hx := B.exec
  have hb := B.bytes
  have hr := B.returns
  have hts := atoms_spec (ws := (.code y_Watch_count bc_Watch_count 4 none :: xw)) B.pre
  have htt : ∀ w ∈ xw, w.before _ s = true := fun w h => hts w (List.mem_cons_of_mem _ h)
  have hown : s.vm.findClass "CentrifugeUnit$Watch" = some m.cls := findClass_of_methodNamed B.named
  have hlocks := B.notSynchronized
  subst hsz
  have hD := hD0.self (sz := s.heap.size)
  generalize hAe : va_A [(A 18, xc18 Z A M), (A 11, xc11 Z A M)] s.heap.size = AA at hD ⊢
  have hA : ∀ q : Nat, s.heap.size ≤ q → AA q := fun q h => by rw [← hAe]; exact Or.inr h
  have hS : va_S AA s.heap s.heap [] := va_S.rf
  have hP : va_P (dC, dI) xcl [(A 18, .inr (8, [.int (M.1 19), .int (M.1 20), .int (M.1 21), .int (M.1 22)])), (A 11, .inr (7, [.int (M.1 2), .int (M.1 3), .int (M.1 4), .int (M.1 5), .int (M.1 6), .int (M.1 7)]))] s.heap := hP
  have hD : va_D AA [(A 18, .inr (8, [.int (M.1 19), .int (M.1 20), .int (M.1 21), .int (M.1 22)])), (A 11, .inr (7, [.int (M.1 2), .int (M.1 3), .int (M.1 4), .int (M.1 5), .int (M.1 6), .int (M.1 7)]))] := hD
  have hl := lv_entry ([.ref (A 18), .ref (A 11)]) (n := 4) (Nat.le_of_ble_eq_true rfl)
  rw [lg_entry_eq]
  generalize (lg_sl ([.ref (A 18), .ref (A 11)]) ++ List.replicate (4 - (lg_sl ([.ref (A 18), .ref (A 11)])).length) Slot.unset).toArray = ls at hl ⊢
  have hl : lv_has ls 4 [(0, .ref (A 18)), (1, .ref (A 11))] := hl
  refine lv_aload_n hx hb d_Watch_count_0 rfl (lv_at hl 1 rfl) ?_
  refine va_get (D := (dC, dI)) (ci := 7) (v := .int (M.1 6)) (C := "CentrifugeUnit$Sensors") (T := xF7) (N := 6) hx hb htt xin7 hown hK hP 1 rfl rfl 4 (by decide) (htt _ tw_103) (fun _ h9 => h9) rfl d_Watch_count_1 ?_
  refine lv_istore_n (lv' := [(2, .int (M.1 6)), (0, .ref (A 18)), (1, .ref (A 11))]) hx hb d_Watch_count_4 rfl hl (by decide) rfl (fun ls hl => ?_)
  refine lv_iload_n hx hb d_Watch_count_5 rfl (lv_at hl 0 rfl) ?_
  refine lv_aload_n hx hb d_Watch_count_6 rfl (lv_at hl 2 rfl) ?_
  refine va_get (D := (dC, dI)) (ci := 7) (v := .int (M.1 7)) (C := "CentrifugeUnit$Sensors") (T := xF7) (N := 6) hx hb htt xin7 hown hK hP 1 rfl rfl 5 (by decide) (htt _ tw_107) (fun _ h9 => h9) rfl d_Watch_count_7 ?_
  refine lv_isub hx hb d_Watch_count_10 ?_
  refine lv_istore_n (lv' := [(3, .int ((M.1 6) - (M.1 7))), (2, .int (M.1 6)), (0, .ref (A 18)), (1, .ref (A 11))]) hx hb d_Watch_count_11 rfl hl (by decide) rfl (fun ls hl => ?_)
  refine lv_aload_n hx hb d_Watch_count_12 rfl (lv_at hl 2 rfl) ?_
  refine lv_iload_n hx hb d_Watch_count_13 rfl (lv_at hl 1 rfl) ?_
  refine xj_p 4 27 (fun q9 : Int32 => [(3, .int ((M.1 6) - (M.1 7))), (2, .int (M.1 6)), (0, .ref (A 18)), (1, .ref (A 11))]) (fun q9 : Int32 => [.int q9, .ref (A 18)]) (fun q9 : Int32 => q9 = J_Watch_count_3 M) (fun hJ2 => ?_) (fun ls j1 hl hj1 => ?_)
  · refine lv_if_ne (tgt := 26) hx hb d_Watch_count_14 rfl (fun h15 => ?_) (fun h15 => ?_)
    · refine lv_iconst (v := 0) hx hb d_Watch_count_26 (by decide) ?_
      exact hJ2 _ 0 (lv_sub hl [0, 1, 2, 3] rfl) (by rw [J_Watch_count_3, if_neg h15])
    · refine lv_aload_n hx hb d_Watch_count_17 rfl (lv_at hl 2 rfl) ?_
      refine va_get (D := (dC, dI)) (ci := 8) (v := .int (M.1 20)) (C := "CentrifugeUnit$Watch") (T := xF8) (N := 4) hx hb htt xin8 hown hK hP 0 rfl rfl 1 (by decide) (htt _ tw_176) (fun _ h9 => h9) rfl d_Watch_count_18 ?_
      refine lv_iconst (v := 1) hx hb d_Watch_count_21 (by decide) ?_
      refine lv_iadd hx hb d_Watch_count_22 ?_
      refine lv_goto (tgt := 27) hx hb d_Watch_count_23 rfl ?_
      exact hJ2 _ ((M.1 20) + 1) (lv_sub hl [0, 1, 2, 3] rfl) (by rw [J_Watch_count_3, if_pos h15])
  · refine va_put (D := (dC, dI)) (ci := 8) (v := .int j1) (ty := .int) (C := "CentrifugeUnit$Watch") (T := xF8) (N := 4) hx hb htt xin8 xT8 xTo8 xNm8 hown hK hP hD hS 0 rfl rfl 1 (by decide) (htt _ tw_176) (fun _ h9 => h9) rfl (by decide +kernel) rfl rfl (Nat.le_of_ble_eq_true rfl) d_Watch_count_27 (fun H locs hP hD hS => ?_)
    have hP : va_P (dC, dI) xcl [(A 18, .inr (8, [.int (M.1 19), .int j1, .int (M.1 21), .int (M.1 22)])), (A 11, .inr (7, [.int (M.1 2), .int (M.1 3), .int (M.1 4), .int (M.1 5), .int (M.1 6), .int (M.1 7)]))] H := hP
    have hD : va_D AA [(A 18, .inr (8, [.int (M.1 19), .int j1, .int (M.1 21), .int (M.1 22)])), (A 11, .inr (7, [.int (M.1 2), .int (M.1 3), .int (M.1 4), .int (M.1 5), .int (M.1 6), .int (M.1 7)]))] := hD
    refine lv_aload_n hx hb d_Watch_count_30 rfl (lv_at hl 2 rfl) ?_
    refine lv_aload_n hx hb d_Watch_count_31 rfl (lv_at hl 2 rfl) ?_
    refine va_get (D := (dC, dI)) (ci := 8) (v := .int (M.1 19)) (C := "CentrifugeUnit$Watch") (T := xF8) (N := 4) hx hb htt xin8 hown hK hP 0 rfl rfl 0 (by decide) (htt _ tw_174) (fun _ h9 => h9) rfl d_Watch_count_32 ?_
    refine lv_sipush (v := 200) hx hb d_Watch_count_35 (by decide) ?_
    refine lv_iload_n hx hb d_Watch_count_38 rfl (lv_at hl 1 rfl) ?_
    refine lv_bipush (v := 20) hx hb d_Watch_count_39 (by decide) ?_
    refine lv_idiv hx hb d_Watch_count_41 (by decide) ?_
    refine lv_iadd hx hb d_Watch_count_42 ?_
    refine xj_p 4 56 (fun q9 : Int32 => [(3, .int ((M.1 6) - (M.1 7))), (2, .int (M.1 6)), (0, .ref (A 18)), (1, .ref (A 11))]) (fun q9 : Int32 => [.int q9, .ref (A 18)]) (fun q9 : Int32 => q9 = J_Watch_count_7 M j1) (fun hJ6 => ?_) (fun ls j5 hl hj5 => ?_)
    · refine lv_icmp_le (tgt := 55) hx hb d_Watch_count_43 rfl (fun h14 => ?_) (fun h14 => ?_)
      · refine lv_iconst (v := 0) hx hb d_Watch_count_55 (by decide) ?_
        exact hJ6 _ 0 (lv_sub hl [0, 1, 2, 3] rfl) (by rw [J_Watch_count_7, if_pos h14])
      · refine lv_aload_n hx hb d_Watch_count_46 rfl (lv_at hl 2 rfl) ?_
        refine va_get (D := (dC, dI)) (ci := 8) (v := .int (M.1 21)) (C := "CentrifugeUnit$Watch") (T := xF8) (N := 4) hx hb htt xin8 hown hK hP 0 rfl rfl 2 (by decide) (htt _ tw_177) (fun _ h9 => h9) rfl d_Watch_count_47 ?_
        refine lv_iconst (v := 1) hx hb d_Watch_count_50 (by decide) ?_
        refine lv_iadd hx hb d_Watch_count_51 ?_
        refine lv_goto (tgt := 56) hx hb d_Watch_count_52 rfl ?_
        exact hJ6 _ ((M.1 21) + 1) (lv_sub hl [0, 1, 2, 3] rfl) (by rw [J_Watch_count_7, if_neg h14])
    · refine va_put (D := (dC, dI)) (ci := 8) (v := .int j5) (ty := .int) (C := "CentrifugeUnit$Watch") (T := xF8) (N := 4) hx hb htt xin8 xT8 xTo8 xNm8 hown hK hP hD hS 0 rfl rfl 2 (by decide) (htt _ tw_177) (fun _ h9 => h9) rfl (by decide +kernel) rfl rfl (Nat.le_of_ble_eq_true rfl) d_Watch_count_56 (fun H locs hP hD hS => ?_)
      have hP : va_P (dC, dI) xcl [(A 18, .inr (8, [.int (M.1 19), .int j1, .int j5, .int (M.1 22)])), (A 11, .inr (7, [.int (M.1 2), .int (M.1 3), .int (M.1 4), .int (M.1 5), .int (M.1 6), .int (M.1 7)]))] H := hP
      have hD : va_D AA [(A 18, .inr (8, [.int (M.1 19), .int j1, .int j5, .int (M.1 22)])), (A 11, .inr (7, [.int (M.1 2), .int (M.1 3), .int (M.1 4), .int (M.1 5), .int (M.1 6), .int (M.1 7)]))] := hD
      refine lv_aload_n hx hb d_Watch_count_59 rfl (lv_at hl 2 rfl) ?_
      refine lv_iload_n hx hb d_Watch_count_60 rfl (lv_at hl 0 rfl) ?_
      refine lv_bipush (v := 100) hx hb d_Watch_count_61 (by decide) ?_
      refine lv_iload_n hx hb d_Watch_count_63 rfl (lv_at hl 1 rfl) ?_
      refine lv_bipush (v := 10) hx hb d_Watch_count_64 (by decide) ?_
      refine lv_idiv hx hb d_Watch_count_66 (by decide) ?_
      refine lv_iadd hx hb d_Watch_count_67 ?_
      refine xj_p 4 81 (fun q9 : Int32 => [(3, .int ((M.1 6) - (M.1 7))), (2, .int (M.1 6)), (0, .ref (A 18)), (1, .ref (A 11))]) (fun q9 : Int32 => [.int q9, .ref (A 18)]) (fun q9 : Int32 => q9 = J_Watch_count_11 M j1 j5) (fun hJ10 => ?_) (fun ls j9 hl hj9 => ?_)
      · refine lv_icmp_le (tgt := 80) hx hb d_Watch_count_68 rfl (fun h13 => ?_) (fun h13 => ?_)
        · refine lv_iconst (v := 0) hx hb d_Watch_count_80 (by decide) ?_
          exact hJ10 _ 0 (lv_sub hl [0, 1, 2, 3] rfl) (by rw [J_Watch_count_11, if_pos h13])
        · refine lv_aload_n hx hb d_Watch_count_71 rfl (lv_at hl 2 rfl) ?_
          refine va_get (D := (dC, dI)) (ci := 8) (v := .int (M.1 22)) (C := "CentrifugeUnit$Watch") (T := xF8) (N := 4) hx hb htt xin8 hown hK hP 0 rfl rfl 3 (by decide) (htt _ tw_178) (fun _ h9 => h9) rfl d_Watch_count_72 ?_
          refine lv_iconst (v := 1) hx hb d_Watch_count_75 (by decide) ?_
          refine lv_iadd hx hb d_Watch_count_76 ?_
          refine lv_goto (tgt := 81) hx hb d_Watch_count_77 rfl ?_
          exact hJ10 _ ((M.1 22) + 1) (lv_sub hl [0, 1, 2, 3] rfl) (by rw [J_Watch_count_11, if_neg h13])
      · refine va_put (D := (dC, dI)) (ci := 8) (v := .int j9) (ty := .int) (C := "CentrifugeUnit$Watch") (T := xF8) (N := 4) hx hb htt xin8 xT8 xTo8 xNm8 hown hK hP hD hS 0 rfl rfl 3 (by decide) (htt _ tw_178) (fun _ h9 => h9) rfl (by decide +kernel) rfl rfl (Nat.le_of_ble_eq_true rfl) d_Watch_count_81 (fun H locs hP hD hS => ?_)
        have hP : va_P (dC, dI) xcl [(A 18, .inr (8, [.int (M.1 19), .int j1, .int j5, .int j9])), (A 11, .inr (7, [.int (M.1 2), .int (M.1 3), .int (M.1 4), .int (M.1 5), .int (M.1 6), .int (M.1 7)]))] H := hP
        have hD : va_D AA [(A 18, .inr (8, [.int (M.1 19), .int j1, .int j5, .int j9])), (A 11, .inr (7, [.int (M.1 2), .int (M.1 3), .int (M.1 4), .int (M.1 5), .int (M.1 6), .int (M.1 7)]))] := hD
        have hP9 := hP.sub (ws' := [(A 18, xc18 Z A (ap_Watch_count M (j1, j5, j9))), (A 11, xc11 Z A (ap_Watch_count M (j1, j5, j9)))]) [0, 1] rfl
        have hD9 := hD.sub (ws' := [(A 18, xc18 Z A (ap_Watch_count M (j1, j5, j9))), (A 11, xc11 Z A (ap_Watch_count M (j1, j5, j9)))]) [0, 1] (by decide) rfl
        exact W.vret hx hb hr (fun t ht hW => ⟨⟨(j1, j5, j9), rfl, (by rw [F_Watch_count, ← hj1, F_Watch_count_k4, ← hj5, F_Watch_count_k8, ← hj9, F_Watch_count_k12]), xE_at hP9 hK hD9 ht hW⟩, hS.F ht⟩) hS.2.2 d_Watch_count_84
abbrev bc_U_within : ByteArray := prog_1_method_19_code
def y_U_within : MethodName := ⟨"CentrifugeUnit", "within", "(III)Z"⟩
theorem d_U_within_0 : decode bc_U_within 0 = .ok (.iload_n 0, 1) := by decide +kernel
theorem d_U_within_1 : decode bc_U_within 1 = .ok (.iload_n 1, 1) := by decide +kernel
theorem d_U_within_2 : decode bc_U_within 2 = .ok (.if_icmp .lt 12, 3) := by decide +kernel
theorem d_U_within_5 : decode bc_U_within 5 = .ok (.iload_n 0, 1) := by decide +kernel
theorem d_U_within_6 : decode bc_U_within 6 = .ok (.iload_n 2, 1) := by decide +kernel
theorem d_U_within_7 : decode bc_U_within 7 = .ok (.if_icmp .gt 7, 3) := by decide +kernel
theorem d_U_within_10 : decode bc_U_within 10 = .ok (.iconst 1, 1) := by decide +kernel
theorem d_U_within_11 : decode bc_U_within 11 = .ok (.goto 4, 3) := by decide +kernel
theorem d_U_within_14 : decode bc_U_within 14 = .ok (.iconst 0, 1) := by decide +kernel
theorem d_U_within_15 : decode bc_U_within 15 = .ok (.ireturn, 1) := by decide +kernel
def F_U_within (M : XM) (a1 : Int32) (a2 : Int32) (a3 : Int32) : Int32 := (if a1 < a2 then 0 else (if a3 < a1 then 0 else 1))
theorem f01_U_within (M : XM) (a1 : Int32) (a2 : Int32) (a3 : Int32) : F_U_within M a1 a2 a3 = 0 ∨ F_U_within M a1 a2 a3 = 1 := by
  simp only [F_U_within]; repeat' split
  all_goals first | exact Or.inl rfl | exact Or.inr rfl | simp
set_option maxHeartbeats 4000000 in
set_option maxRecDepth 100000 in
theorem c_U_within (l : Launch) (dC : Nat → ClassId) (dI : Nat → Nat → Nat) (Z : Nat → ClassId) (A : Nat → Nat) (sz : Nat) (M : XM) (a1 : Int32) (a2 : Int32) (a3 : Int32) : Met l y_U_within (.code y_U_within bc_U_within 3 (some .boolean) :: xw) ({ frames := 0, cells := 0, slots := 0, locals := 0 }) (va_Pc [.int a1, .int a2, .int a3] (xB (dC, dI) xcl (xty Z) sz [])) (k2_QcV (.int (F_U_within M a1 a2 a3))) 0 0 (fun _ => False) := by
  refine Met.ofW (cc := bc_U_within) (maxL := 3) (ret := (some .boolean)) (by decide) rfl ?_
  intro p e s m args below meth c s₁ B hml hv
  obtain ⟨rfl, hsz, hP, hK, hD0, hq⟩ := hv
  have hx := B.exec
  have hb := B.bytes
  have hr := B.returns
  have hts := atoms_spec (ws := (.code y_U_within bc_U_within 3 (some .boolean) :: xw)) B.pre
  have htt : ∀ w ∈ xw, w.before _ s = true := fun w h => hts w (List.mem_cons_of_mem _ h)
  have hown : s.vm.findClass "CentrifugeUnit" = some m.cls := findClass_of_methodNamed B.named
  have hlocks := B.notSynchronized
  subst hsz
  have hD : va_D (fun _ => True) [] := hD0
  have hP : va_P (dC, dI) xcl [] s.heap := hP
  have hl := lv_entry ([.int a1, .int a2, .int a3]) (n := 3) (Nat.le_of_ble_eq_true rfl)
  rw [lg_entry_eq]
  generalize (lg_sl ([.int a1, .int a2, .int a3]) ++ List.replicate (3 - (lg_sl ([.int a1, .int a2, .int a3])).length) Slot.unset).toArray = ls at hl ⊢
  have hl : lv_has ls 3 [(0, .int a1), (1, .int a2), (2, .int a3)] := hl
  refine lv_iload_n hx hb d_U_within_0 rfl (lv_at hl 0 rfl) ?_
  refine lv_iload_n hx hb d_U_within_1 rfl (lv_at hl 1 rfl) ?_
  refine lv_icmp_lt (tgt := 14) hx hb d_U_within_2 rfl (fun h1 => ?_) (fun h1 => ?_)
  · refine lv_iconst (v := 0) hx hb d_U_within_14 (by decide) ?_
    exact W.zret (ty := .boolean) hx hb hr rfl (fun t ht hW => ⟨(by rw [F_U_within, if_pos h1]), ht⟩) (fun _ h => absurd h List.not_mem_nil) d_U_within_15
  · refine lv_iload_n hx hb d_U_within_5 rfl (lv_at hl 0 rfl) ?_
    refine lv_iload_n hx hb d_U_within_6 rfl (lv_at hl 2 rfl) ?_
    refine lv_icmp_gt (tgt := 14) hx hb d_U_within_7 rfl (fun h2 => ?_) (fun h2 => ?_)
    · refine lv_iconst (v := 0) hx hb d_U_within_14 (by decide) ?_
      exact W.zret (ty := .boolean) hx hb hr rfl (fun t ht hW => ⟨(by rw [F_U_within, if_neg h1, if_pos h2]), ht⟩) (fun _ h => absurd h List.not_mem_nil) d_U_within_15
    · refine lv_iconst (v := 1) hx hb d_U_within_10 (by decide) ?_
      refine lv_goto (tgt := 15) hx hb d_U_within_11 rfl ?_
      exact W.zret (ty := .boolean) hx hb hr rfl (fun t ht hW => ⟨(by rw [F_U_within, if_neg h1, if_neg h2]), ht⟩) (fun _ h => absurd h List.not_mem_nil) d_U_within_15
abbrev bc_Rotors_exists : ByteArray := prog_7_method_2_code
def y_Rotors_exists : MethodName := ⟨"CentrifugeUnit$Rotors", "exists", "(I)Z"⟩
theorem d_Rotors_exists_0 : decode bc_Rotors_exists 0 = .ok (.iload_n 0, 1) := by decide +kernel
theorem d_Rotors_exists_1 : decode bc_Rotors_exists 1 = .ok (.iconst 0, 1) := by decide +kernel
theorem d_Rotors_exists_2 : decode bc_Rotors_exists 2 = .ok (.iconst 3, 1) := by decide +kernel
theorem d_Rotors_exists_3 : decode bc_Rotors_exists 3 = .ok (.invokestatic 34, 3) := by decide +kernel
theorem d_Rotors_exists_6 : decode bc_Rotors_exists 6 = .ok (.ireturn, 1) := by decide +kernel
def F_Rotors_exists_k2 (M : XM) (a1 : Int32) (z1 : Int32) : Int32 := z1
def F_Rotors_exists (M : XM) (a1 : Int32) : Int32 := (F_Rotors_exists_k2 M a1 (F_U_within M a1 0 3))
theorem f01_Rotors_exists (M : XM) (a1 : Int32) : F_Rotors_exists M a1 = 0 ∨ F_Rotors_exists M a1 = 1 := by
  simp only [F_Rotors_exists_k2, F_Rotors_exists]; repeat' split
  all_goals first | exact Or.inl rfl | exact Or.inr rfl | exact f01_U_within _ _ _ _ | simp
set_option maxHeartbeats 4000000 in
set_option maxRecDepth 100000 in
theorem c_Rotors_exists (l : Launch) (dC : Nat → ClassId) (dI : Nat → Nat → Nat) (Z : Nat → ClassId) (A : Nat → Nat) (sz : Nat) (M : XM) (a1 : Int32) : Met l y_Rotors_exists (.code y_Rotors_exists bc_Rotors_exists 1 (some .boolean) :: xw) ({ frames := 1, cells := 0, slots := 0, locals := 22 }) (va_Pc [.int a1] (xB (dC, dI) xcl (xty Z) sz [])) (k2_QcV (.int (F_Rotors_exists M a1))) 0 0 (fun _ => False) := by
  refine Met.ofW (cc := bc_Rotors_exists) (maxL := 1) (ret := (some .boolean)) (by decide) rfl ?_
  intro p e s m args below meth c s₁ B hml hv
  obtain ⟨rfl, hsz, hP, hK, hD0, hq⟩ := hv
  have hx := B.exec
  have hb := B.bytes
  have hr := B.returns
  have hts := atoms_spec (ws := (.code y_Rotors_exists bc_Rotors_exists 1 (some .boolean) :: xw)) B.pre
  have htt : ∀ w ∈ xw, w.before _ s = true := fun w h => hts w (List.mem_cons_of_mem _ h)
  have hown : s.vm.findClass "CentrifugeUnit$Rotors" = some m.cls := findClass_of_methodNamed B.named
  have hlocks := B.notSynchronized
  subst hsz
  have hD : va_D (fun _ => True) [] := hD0
  have hP : va_P (dC, dI) xcl [] s.heap := hP
  have hl := lv_entry ([.int a1]) (n := 1) (Nat.le_of_ble_eq_true rfl)
  rw [lg_entry_eq]
  generalize (lg_sl ([.int a1]) ++ List.replicate (1 - (lg_sl ([.int a1])).length) Slot.unset).toArray = ls at hl ⊢
  have hl : lv_has ls 1 [(0, .int a1)] := hl
  refine lv_iload_n hx hb d_Rotors_exists_0 rfl (lv_at hl 0 rfl) ?_
  refine lv_iconst (v := 0) hx hb d_Rotors_exists_1 (by decide) ?_
  refine lv_iconst (v := 3) hx hb d_Rotors_exists_2 (by decide) ?_
  have hPc := hP.sub (ws' := []) [] rfl
  have hDc := hD.sub (ws' := []) [] (by decide) rfl
  refine xk_p (va_runSN (As := [.int a1, .int 0, .int 3]) (rest := []) ⟨hx, hb, hml, hown, hts⟩ (c_U_within l dC dI Z A _ M a1 0 3) ⟨va_cnB 3 hts (xw_call _ tw_327) rfl rfl rfl (hq.1 ("CentrifugeUnit$Rotors", 34, y_U_within, "CentrifugeUnit") (by decide +kernel)) (htt _ tw_1) (by decide +kernel) ⟨Nat.le_of_ble_eq_true rfl, Nat.le_of_ble_eq_true rfl⟩, htt _ tw_326, trivial⟩ ⟨xB_blind, fun U hU hW => ⟨rfl, xB_at hPc hK hDc hq U hU hW⟩⟩ rfl rfl hl.1 rfl (lv_room (Nat.le_of_ble_eq_true rfl)) d_Rotors_exists_3 ⟨Nat.le_of_ble_eq_true rfl, Nat.le_of_ble_eq_true rfl⟩) ?_
  refine lv_topi (fun z1 hz1 => ?_)
  exact W.zret (ty := .boolean) hx hb hr (xz_nar (by rw [hz1]; exact f01_U_within M a1 0 3)) (fun t ht hW => ⟨(by rw [F_Rotors_exists, ← hz1, F_Rotors_exists_k2]), ht⟩) (fun _ h => absurd h List.not_mem_nil) d_Rotors_exists_6
abbrev bc_Math_floorMod : ByteArray := prog_17_method_50_code
def y_Math_floorMod : MethodName := ⟨"java/lang/Math", "floorMod", "(II)I"⟩
theorem d_Math_floorMod_0 : decode bc_Math_floorMod 0 = .ok (.iload_n 0, 1) := by decide +kernel
theorem d_Math_floorMod_1 : decode bc_Math_floorMod 1 = .ok (.iload_n 1, 1) := by decide +kernel
theorem d_Math_floorMod_2 : decode bc_Math_floorMod 2 = .ok (.irem, 1) := by decide +kernel
theorem d_Math_floorMod_3 : decode bc_Math_floorMod 3 = .ok (.istore_n 2, 1) := by decide +kernel
theorem d_Math_floorMod_4 : decode bc_Math_floorMod 4 = .ok (.iload_n 0, 1) := by decide +kernel
theorem d_Math_floorMod_5 : decode bc_Math_floorMod 5 = .ok (.iload_n 1, 1) := by decide +kernel
theorem d_Math_floorMod_6 : decode bc_Math_floorMod 6 = .ok (.ixor, 1) := by decide +kernel
theorem d_Math_floorMod_7 : decode bc_Math_floorMod 7 = .ok (.ifCond .ge 11, 3) := by decide +kernel
theorem d_Math_floorMod_10 : decode bc_Math_floorMod 10 = .ok (.iload_n 2, 1) := by decide +kernel
theorem d_Math_floorMod_11 : decode bc_Math_floorMod 11 = .ok (.ifCond .eq 7, 3) := by decide +kernel
theorem d_Math_floorMod_14 : decode bc_Math_floorMod 14 = .ok (.iload_n 2, 1) := by decide +kernel
theorem d_Math_floorMod_15 : decode bc_Math_floorMod 15 = .ok (.iload_n 1, 1) := by decide +kernel
theorem d_Math_floorMod_16 : decode bc_Math_floorMod 16 = .ok (.iadd, 1) := by decide +kernel
theorem d_Math_floorMod_17 : decode bc_Math_floorMod 17 = .ok (.ireturn, 1) := by decide +kernel
theorem d_Math_floorMod_18 : decode bc_Math_floorMod 18 = .ok (.iload_n 2, 1) := by decide +kernel
theorem d_Math_floorMod_19 : decode bc_Math_floorMod 19 = .ok (.ireturn, 1) := by decide +kernel
def F_Math_floorMod (M : XM) (a1 : Int32) (a2 : Int32) : Int32 := (if 0 ≤ (a1 ^^^ a2) then (a1 - a1 / a2 * a2) else (if (a1 - a1 / a2 * a2) = 0 then (a1 - a1 / a2 * a2) else ((a1 - a1 / a2 * a2) + a2)))
set_option maxHeartbeats 4000000 in
set_option maxRecDepth 100000 in
theorem c_Math_floorMod (l : Launch) (dC : Nat → ClassId) (dI : Nat → Nat → Nat) (Z : Nat → ClassId) (A : Nat → Nat) (sz : Nat) (M : XM) (a1 : Int32) (a2 : Int32) (ha2 : ¬ a2 = 0) : Met l y_Math_floorMod (.code y_Math_floorMod bc_Math_floorMod 3 (some .int) :: xw) ({ frames := 0, cells := 0, slots := 0, locals := 0 }) (va_Pc [.int a1, .int a2] (xB (dC, dI) xcl (xty Z) sz [])) (k2_QcV (.int (F_Math_floorMod M a1 a2))) 0 0 (fun _ => False) := by
  refine va_MetF (cc := bc_Math_floorMod) (maxL := 3) (ret := (some .int)) (by decide +kernel) rfl ?_
  intro p e s m args below meth c s₁ B hml hv
  obtain ⟨rfl, hsz, hP, hK, hD0, hq⟩ := hv
  have hx := B.exec
  have hb := B.bytes
  have hr := B.returns
  have hts := atoms_spec (ws := (.code y_Math_floorMod bc_Math_floorMod 3 (some .int) :: xw)) B.pre
  have htt : ∀ w ∈ xw, w.before _ s = true := fun w h => hts w (List.mem_cons_of_mem _ h)
  have hown : s.vm.findClass "java/lang/Math" = some m.cls := findClass_of_methodNamed B.named
  have hlocks := B.notSynchronized
  subst hsz
  have hD : va_D (fun _ => True) [] := hD0
  have hP : va_P (dC, dI) xcl [] s.heap := hP
  have hl := lv_entry ([.int a1, .int a2]) (n := 3) (Nat.le_of_ble_eq_true rfl)
  rw [lg_entry_eq]
  generalize (lg_sl ([.int a1, .int a2]) ++ List.replicate (3 - (lg_sl ([.int a1, .int a2])).length) Slot.unset).toArray = ls at hl ⊢
  have hl : lv_has ls 3 [(0, .int a1), (1, .int a2)] := hl
  refine lv_iload_n hx hb d_Math_floorMod_0 rfl (lv_at hl 0 rfl) ?_
  refine lv_iload_n hx hb d_Math_floorMod_1 rfl (lv_at hl 1 rfl) ?_
  refine lv_irem hx hb d_Math_floorMod_2 ha2 ?_
  refine lv_istore_n (lv' := [(2, .int (a1 - a1 / a2 * a2)), (0, .int a1), (1, .int a2)]) hx hb d_Math_floorMod_3 rfl hl (by decide) rfl (fun ls hl => ?_)
  refine lv_iload_n hx hb d_Math_floorMod_4 rfl (lv_at hl 1 rfl) ?_
  refine lv_iload_n hx hb d_Math_floorMod_5 rfl (lv_at hl 2 rfl) ?_
  refine lv_ixor hx hb d_Math_floorMod_6 ?_
  refine lv_if_ge (tgt := 18) hx hb d_Math_floorMod_7 rfl (fun h1 => ?_) (fun h1 => ?_)
  · refine lv_iload_n hx hb d_Math_floorMod_18 rfl (lv_at hl 0 rfl) ?_
    exact W.iret hx hb hr (fun t ht hW => ⟨(by rw [F_Math_floorMod, if_pos h1]), ht⟩) (fun _ h => absurd h List.not_mem_nil) d_Math_floorMod_19
  · refine lv_iload_n hx hb d_Math_floorMod_10 rfl (lv_at hl 0 rfl) ?_
    refine lv_if_eq (tgt := 18) hx hb d_Math_floorMod_11 rfl (fun h2 => ?_) (fun h2 => ?_)
    · refine lv_iload_n hx hb d_Math_floorMod_18 rfl (lv_at hl 0 rfl) ?_
      exact W.iret hx hb hr (fun t ht hW => ⟨(by rw [F_Math_floorMod, if_neg h1, if_pos h2]), ht⟩) (fun _ h => absurd h List.not_mem_nil) d_Math_floorMod_19
    · refine lv_iload_n hx hb d_Math_floorMod_14 rfl (lv_at hl 0 rfl) ?_
      refine lv_iload_n hx hb d_Math_floorMod_15 rfl (lv_at hl 2 rfl) ?_
      refine lv_iadd hx hb d_Math_floorMod_16 ?_
      exact W.iret hx hb hr (fun t ht hW => ⟨(by rw [F_Math_floorMod, if_neg h1, if_neg h2]), ht⟩) (fun _ h => absurd h List.not_mem_nil) d_Math_floorMod_17
abbrev bc_Lid_locked : ByteArray := prog_3_method_2_code
def y_Lid_locked : MethodName := ⟨"CentrifugeUnit$Lid", "locked", "()Z"⟩
theorem d_Lid_locked_0 : decode bc_Lid_locked 0 = .ok (.aload_n 0, 1) := by decide +kernel
theorem d_Lid_locked_1 : decode bc_Lid_locked 1 = .ok (.getfield 7, 3) := by decide +kernel
theorem d_Lid_locked_4 : decode bc_Lid_locked 4 = .ok (.ifCond .eq 14, 3) := by decide +kernel
theorem d_Lid_locked_7 : decode bc_Lid_locked 7 = .ok (.aload_n 0, 1) := by decide +kernel
theorem d_Lid_locked_8 : decode bc_Lid_locked 8 = .ok (.getfield 13, 3) := by decide +kernel
theorem d_Lid_locked_11 : decode bc_Lid_locked 11 = .ok (.ifCond .ne 7, 3) := by decide +kernel
theorem d_Lid_locked_14 : decode bc_Lid_locked 14 = .ok (.iconst 1, 1) := by decide +kernel
theorem d_Lid_locked_15 : decode bc_Lid_locked 15 = .ok (.goto 4, 3) := by decide +kernel
theorem d_Lid_locked_18 : decode bc_Lid_locked 18 = .ok (.iconst 0, 1) := by decide +kernel
theorem d_Lid_locked_19 : decode bc_Lid_locked 19 = .ok (.ireturn, 1) := by decide +kernel
def F_Lid_locked (M : XM) : Int32 := (if (M.1 8) = 0 then 0 else (if (M.1 9) = 0 then 1 else 0))
theorem f01_Lid_locked (M : XM) : F_Lid_locked M = 0 ∨ F_Lid_locked M = 1 := by
  simp only [F_Lid_locked]; repeat' split
  all_goals first | exact Or.inl rfl | exact Or.inr rfl | simp
set_option maxHeartbeats 4000000 in
set_option maxRecDepth 100000 in
theorem c_Lid_locked (l : Launch) (dC : Nat → ClassId) (dI : Nat → Nat → Nat) (Z : Nat → ClassId) (A : Nat → Nat) (sz : Nat) (M : XM) : Met l y_Lid_locked (.code y_Lid_locked bc_Lid_locked 1 (some .boolean) :: xw) ({ frames := 0, cells := 0, slots := 0, locals := 0 }) (va_Pc [.ref (A 12)] (xB (dC, dI) xcl (xty Z) sz [(A 12, xc12 Z A M)])) (k2_QcV (.int (F_Lid_locked M))) 0 0 (fun _ => False) := by
  refine Met.ofW (cc := bc_Lid_locked) (maxL := 1) (ret := (some .boolean)) (by decide) rfl ?_
  intro p e s m args below meth c s₁ B hml hv
  obtain ⟨rfl, hsz, hP, hK, hD0, hq⟩ := hv
  have hx := B.exec
  have hb := B.bytes
  have hr := B.returns
  have hts := atoms_spec (ws := (.code y_Lid_locked bc_Lid_locked 1 (some .boolean) :: xw)) B.pre
  have htt : ∀ w ∈ xw, w.before _ s = true := fun w h => hts w (List.mem_cons_of_mem _ h)
  have hown : s.vm.findClass "CentrifugeUnit$Lid" = some m.cls := findClass_of_methodNamed B.named
  have hlocks := B.notSynchronized
  subst hsz
  have hD : va_D (fun _ => True) [(A 12, .inr (1, [.int (M.1 8), .int (M.1 9), .int (M.1 10)]))] := hD0
  have hP : va_P (dC, dI) xcl [(A 12, .inr (1, [.int (M.1 8), .int (M.1 9), .int (M.1 10)]))] s.heap := hP
  have hl := lv_entry ([.ref (A 12)]) (n := 1) (Nat.le_of_ble_eq_true rfl)
  rw [lg_entry_eq]
  generalize (lg_sl ([.ref (A 12)]) ++ List.replicate (1 - (lg_sl ([.ref (A 12)])).length) Slot.unset).toArray = ls at hl ⊢
  have hl : lv_has ls 1 [(0, .ref (A 12))] := hl
  refine lv_aload_n hx hb d_Lid_locked_0 rfl (lv_at hl 0 rfl) ?_
  refine va_get (D := (dC, dI)) (ci := 1) (v := .int (M.1 8)) (C := "CentrifugeUnit$Lid") (T := xF1) (N := 3) hx hb htt xin1 hown hK hP 0 rfl rfl 0 (by decide) (htt _ tw_129) (fun _ h9 => h9) rfl d_Lid_locked_1 ?_
  refine lv_if_eq (tgt := 18) hx hb d_Lid_locked_4 rfl (fun h1 => ?_) (fun h1 => ?_)
  · refine lv_iconst (v := 0) hx hb d_Lid_locked_18 (by decide) ?_
    exact W.zret (ty := .boolean) hx hb hr rfl (fun t ht hW => ⟨(by rw [F_Lid_locked, if_pos h1]), ht⟩) (fun _ h => absurd h List.not_mem_nil) d_Lid_locked_19
  · refine lv_aload_n hx hb d_Lid_locked_7 rfl (lv_at hl 0 rfl) ?_
    refine va_get (D := (dC, dI)) (ci := 1) (v := .int (M.1 9)) (C := "CentrifugeUnit$Lid") (T := xF1) (N := 3) hx hb htt xin1 hown hK hP 0 rfl rfl 1 (by decide) (htt _ tw_131) (fun _ h9 => h9) rfl d_Lid_locked_8 ?_
    refine lv_if_ne (tgt := 18) hx hb d_Lid_locked_11 rfl (fun h2 => ?_) (fun h2 => ?_)
    · refine lv_iconst (v := 0) hx hb d_Lid_locked_18 (by decide) ?_
      exact W.zret (ty := .boolean) hx hb hr rfl (fun t ht hW => ⟨(by rw [F_Lid_locked, if_neg h1, if_neg h2]), ht⟩) (fun _ h => absurd h List.not_mem_nil) d_Lid_locked_19
    · refine lv_iconst (v := 1) hx hb d_Lid_locked_14 (by decide) ?_
      refine lv_goto (tgt := 19) hx hb d_Lid_locked_15 rfl ?_
      exact W.zret (ty := .boolean) hx hb hr rfl (fun t ht hW => ⟨(by rw [F_Lid_locked, if_neg h1, if_pos h2]), ht⟩) (fun _ h => absurd h List.not_mem_nil) d_Lid_locked_19
abbrev bc_Lid_askToOpen : ByteArray := prog_3_method_3_code
def y_Lid_askToOpen : MethodName := ⟨"CentrifugeUnit$Lid", "askToOpen", "()V"⟩
theorem d_Lid_askToOpen_0 : decode bc_Lid_askToOpen 0 = .ok (.aload_n 0, 1) := by decide +kernel
theorem d_Lid_askToOpen_1 : decode bc_Lid_askToOpen 1 = .ok (.bipush 10, 2) := by decide +kernel
theorem d_Lid_askToOpen_3 : decode bc_Lid_askToOpen 3 = .ok (.putfield 16, 3) := by decide +kernel
theorem d_Lid_askToOpen_6 : decode bc_Lid_askToOpen 6 = .ok (.return_, 1) := by decide +kernel
abbrev ap_Lid_askToOpen (M : XM) (u : Int32) : XM := ((va_up M.1 10 u), M.2)
def F_Lid_askToOpen (M : XM) : (Int32) := 10
set_option maxHeartbeats 4000000 in
set_option maxRecDepth 100000 in
theorem c_Lid_askToOpen (l : Launch) (dC : Nat → ClassId) (dI : Nat → Nat → Nat) (Z : Nat → ClassId) (A : Nat → Nat) (sz : Nat) (M : XM) : Met l y_Lid_askToOpen (.code y_Lid_askToOpen bc_Lid_askToOpen 1 none :: xw) ({ frames := 0, cells := 0, slots := 0, locals := 0 }) (va_Pc [.ref (A 12)] (xB (dC, dI) xcl (xty Z) sz [(A 12, xc12 Z A M)])) (va_Qv (fun u : Int32 => u = F_Lid_askToOpen M) (fun u => xE (dC, dI) xcl (xty Z) (va_A [(A 12, xc12 Z A M)] sz) [(A 12, xc12 Z A (ap_Lid_askToOpen M u))]) (va_A [(A 12, xc12 Z A M)] sz)) 0 0 (va_A [(A 12, xc12 Z A M)] sz) := by
  refine Met.ofW (cc := bc_Lid_askToOpen) (maxL := 1) (ret := none) (by decide) rfl ?_
  intro p e s m args below meth c s₁ B hml hv
  obtain ⟨rfl, hsz, hP, hK, hD0, hq⟩ := hv
  have hx := B.exec
  have hb := B.bytes
  have hr := B.returns
  have hts := atoms_spec (ws := (.code y_Lid_askToOpen bc_Lid_askToOpen 1 none :: xw)) B.pre
  have htt : ∀ w ∈ xw, w.before _ s = true := fun w h => hts w (List.mem_cons_of_mem _ h)
  have hown : s.vm.findClass "CentrifugeUnit$Lid" = some m.cls := findClass_of_methodNamed B.named
  have hlocks := B.notSynchronized
  subst hsz
  have hD := hD0.self (sz := s.heap.size)
  generalize hAe : va_A [(A 12, xc12 Z A M)] s.heap.size = AA at hD ⊢
  have hA : ∀ q : Nat, s.heap.size ≤ q → AA q := fun q h => by rw [← hAe]; exact Or.inr h
  have hS : va_S AA s.heap s.heap [] := va_S.rf
  have hP : va_P (dC, dI) xcl [(A 12, .inr (1, [.int (M.1 8), .int (M.1 9), .int (M.1 10)]))] s.heap := hP
  have hD : va_D AA [(A 12, .inr (1, [.int (M.1 8), .int (M.1 9), .int (M.1 10)]))] := hD
  have hl := lv_entry ([.ref (A 12)]) (n := 1) (Nat.le_of_ble_eq_true rfl)
  rw [lg_entry_eq]
  generalize (lg_sl ([.ref (A 12)]) ++ List.replicate (1 - (lg_sl ([.ref (A 12)])).length) Slot.unset).toArray = ls at hl ⊢
  have hl : lv_has ls 1 [(0, .ref (A 12))] := hl
  refine lv_aload_n hx hb d_Lid_askToOpen_0 rfl (lv_at hl 0 rfl) ?_
  refine lv_bipush (v := 10) hx hb d_Lid_askToOpen_1 (by decide) ?_
  refine va_put (D := (dC, dI)) (ci := 1) (v := .int 10) (ty := .int) (C := "CentrifugeUnit$Lid") (T := xF1) (N := 3) hx hb htt xin1 xT1 xTo1 xNm1 hown hK hP hD hS 0 rfl rfl 2 (by decide) (htt _ tw_133) (fun _ h9 => h9) rfl (by decide +kernel) rfl rfl (Nat.le_of_ble_eq_true rfl) d_Lid_askToOpen_3 (fun H locs hP hD hS => ?_)
  have hP : va_P (dC, dI) xcl [(A 12, .inr (1, [.int (M.1 8), .int (M.1 9), .int 10]))] H := hP
  have hD : va_D AA [(A 12, .inr (1, [.int (M.1 8), .int (M.1 9), .int 10]))] := hD
  have hP9 := hP.sub (ws' := [(A 12, xc12 Z A (ap_Lid_askToOpen M 10))]) [0] rfl
  have hD9 := hD.sub (ws' := [(A 12, xc12 Z A (ap_Lid_askToOpen M 10))]) [0] (by decide) rfl
  exact W.vret hx hb hr (fun t ht hW => ⟨⟨10, rfl, (by rw [F_Lid_askToOpen]), xE_at hP9 hK hD9 ht hW⟩, hS.F ht⟩) hS.2.2 d_Lid_askToOpen_6
abbrev bc_Lid_feedCoil : ByteArray := prog_3_method_4_code
def y_Lid_feedCoil : MethodName := ⟨"CentrifugeUnit$Lid", "feedCoil", "()Z"⟩
theorem d_Lid_feedCoil_0 : decode bc_Lid_feedCoil 0 = .ok (.aload_n 0, 1) := by decide +kernel
theorem d_Lid_feedCoil_1 : decode bc_Lid_feedCoil 1 = .ok (.getfield 16, 3) := by decide +kernel
theorem d_Lid_feedCoil_4 : decode bc_Lid_feedCoil 4 = .ok (.ifCond .ne 5, 3) := by decide +kernel
theorem d_Lid_feedCoil_7 : decode bc_Lid_feedCoil 7 = .ok (.iconst 0, 1) := by decide +kernel
theorem d_Lid_feedCoil_8 : decode bc_Lid_feedCoil 8 = .ok (.ireturn, 1) := by decide +kernel
theorem d_Lid_feedCoil_9 : decode bc_Lid_feedCoil 9 = .ok (.aload_n 0, 1) := by decide +kernel
theorem d_Lid_feedCoil_10 : decode bc_Lid_feedCoil 10 = .ok (.dup, 1) := by decide +kernel
theorem d_Lid_feedCoil_11 : decode bc_Lid_feedCoil 11 = .ok (.getfield 16, 3) := by decide +kernel
theorem d_Lid_feedCoil_14 : decode bc_Lid_feedCoil 14 = .ok (.iconst 1, 1) := by decide +kernel
theorem d_Lid_feedCoil_15 : decode bc_Lid_feedCoil 15 = .ok (.isub, 1) := by decide +kernel
theorem d_Lid_feedCoil_16 : decode bc_Lid_feedCoil 16 = .ok (.putfield 16, 3) := by decide +kernel
theorem d_Lid_feedCoil_19 : decode bc_Lid_feedCoil 19 = .ok (.iconst 1, 1) := by decide +kernel
theorem d_Lid_feedCoil_20 : decode bc_Lid_feedCoil 20 = .ok (.ireturn, 1) := by decide +kernel
abbrev ap_Lid_feedCoil (M : XM) (u : Int32) : XM := ((va_up M.1 10 u), M.2)
def F_Lid_feedCoil (M : XM) : Int32 × Int32 := (if (M.1 10) = 0 then (0, (M.1 10)) else (1, ((M.1 10) - 1)))
theorem f01_Lid_feedCoil (M : XM) : (F_Lid_feedCoil M).1 = 0 ∨ (F_Lid_feedCoil M).1 = 1 := by
  simp only [F_Lid_feedCoil]; repeat' split
  all_goals first | exact Or.inl rfl | exact Or.inr rfl | simp
set_option maxHeartbeats 4000000 in
set_option maxRecDepth 100000 in
theorem c_Lid_feedCoil (l : Launch) (dC : Nat → ClassId) (dI : Nat → Nat → Nat) (Z : Nat → ClassId) (A : Nat → Nat) (sz : Nat) (M : XM) : Met l y_Lid_feedCoil (.code y_Lid_feedCoil bc_Lid_feedCoil 1 (some .boolean) :: xw) ({ frames := 0, cells := 0, slots := 0, locals := 0 }) (va_Pc [.ref (A 12)] (xB (dC, dI) xcl (xty Z) sz [(A 12, xc12 Z A M)])) (va_Qi (fun (r : Int32) (u : Int32) => (r, u) = F_Lid_feedCoil M) (fun u => xE (dC, dI) xcl (xty Z) (va_A [(A 12, xc12 Z A M)] sz) [(A 12, xc12 Z A (ap_Lid_feedCoil M u))]) (va_A [(A 12, xc12 Z A M)] sz)) 0 0 (va_A [(A 12, xc12 Z A M)] sz) := by
  refine Met.ofW (cc := bc_Lid_feedCoil) (maxL := 1) (ret := (some .boolean)) (by decide) rfl ?_
  intro p e s m args below meth c s₁ B hml hv
  obtain ⟨rfl, hsz, hP, hK, hD0, hq⟩ := hv
  have hx := B.exec
  have hb := B.bytes
  have hr := B.returns
  have hts := atoms_spec (ws := (.code y_Lid_feedCoil bc_Lid_feedCoil 1 (some .boolean) :: xw)) B.pre
  have htt : ∀ w ∈ xw, w.before _ s = true := fun w h => hts w (List.mem_cons_of_mem _ h)
  have hown : s.vm.findClass "CentrifugeUnit$Lid" = some m.cls := findClass_of_methodNamed B.named
  have hlocks := B.notSynchronized
  subst hsz
  have hD := hD0.self (sz := s.heap.size)
  generalize hAe : va_A [(A 12, xc12 Z A M)] s.heap.size = AA at hD ⊢
  have hA : ∀ q : Nat, s.heap.size ≤ q → AA q := fun q h => by rw [← hAe]; exact Or.inr h
  have hS : va_S AA s.heap s.heap [] := va_S.rf
  have hP : va_P (dC, dI) xcl [(A 12, .inr (1, [.int (M.1 8), .int (M.1 9), .int (M.1 10)]))] s.heap := hP
  have hD : va_D AA [(A 12, .inr (1, [.int (M.1 8), .int (M.1 9), .int (M.1 10)]))] := hD
  have hl := lv_entry ([.ref (A 12)]) (n := 1) (Nat.le_of_ble_eq_true rfl)
  rw [lg_entry_eq]
  generalize (lg_sl ([.ref (A 12)]) ++ List.replicate (1 - (lg_sl ([.ref (A 12)])).length) Slot.unset).toArray = ls at hl ⊢
  have hl : lv_has ls 1 [(0, .ref (A 12))] := hl
  refine lv_aload_n hx hb d_Lid_feedCoil_0 rfl (lv_at hl 0 rfl) ?_
  refine va_get (D := (dC, dI)) (ci := 1) (v := .int (M.1 10)) (C := "CentrifugeUnit$Lid") (T := xF1) (N := 3) hx hb htt xin1 hown hK hP 0 rfl rfl 2 (by decide) (htt _ tw_133) (fun _ h9 => h9) rfl d_Lid_feedCoil_1 ?_
  refine lv_if_ne (tgt := 9) hx hb d_Lid_feedCoil_4 rfl (fun h1 => ?_) (fun h1 => ?_)
  · refine lv_aload_n hx hb d_Lid_feedCoil_9 rfl (lv_at hl 0 rfl) ?_
    refine lv_dup hx hb d_Lid_feedCoil_10 rfl ?_
    refine va_get (D := (dC, dI)) (ci := 1) (v := .int (M.1 10)) (C := "CentrifugeUnit$Lid") (T := xF1) (N := 3) hx hb htt xin1 hown hK hP 0 rfl rfl 2 (by decide) (htt _ tw_133) (fun _ h9 => h9) rfl d_Lid_feedCoil_11 ?_
    refine lv_iconst (v := 1) hx hb d_Lid_feedCoil_14 (by decide) ?_
    refine lv_isub hx hb d_Lid_feedCoil_15 ?_
    refine va_put (D := (dC, dI)) (ci := 1) (v := .int ((M.1 10) - 1)) (ty := .int) (C := "CentrifugeUnit$Lid") (T := xF1) (N := 3) hx hb htt xin1 xT1 xTo1 xNm1 hown hK hP hD hS 0 rfl rfl 2 (by decide) (htt _ tw_133) (fun _ h9 => h9) rfl (by decide +kernel) rfl rfl (Nat.le_of_ble_eq_true rfl) d_Lid_feedCoil_16 (fun H locs hP hD hS => ?_)
    have hP : va_P (dC, dI) xcl [(A 12, .inr (1, [.int (M.1 8), .int (M.1 9), .int ((M.1 10) - 1)]))] H := hP
    have hD : va_D AA [(A 12, .inr (1, [.int (M.1 8), .int (M.1 9), .int ((M.1 10) - 1)]))] := hD
    refine lv_iconst (v := 1) hx hb d_Lid_feedCoil_19 (by decide) ?_
    have hP9 := hP.sub (ws' := [(A 12, xc12 Z A (ap_Lid_feedCoil M ((M.1 10) - 1)))]) [0] rfl
    have hD9 := hD.sub (ws' := [(A 12, xc12 Z A (ap_Lid_feedCoil M ((M.1 10) - 1)))]) [0] (by decide) rfl
    exact W.zret (ty := .boolean) hx hb hr rfl (fun t ht hW => ⟨⟨1, ((M.1 10) - 1), rfl, (by rw [F_Lid_feedCoil, if_neg h1]), xE_at hP9 hK hD9 ht hW⟩, hS.F ht⟩) hS.2.2 d_Lid_feedCoil_20
  · refine lv_iconst (v := 0) hx hb d_Lid_feedCoil_7 (by decide) ?_
    have hP9 := hP.sub (ws' := [(A 12, xc12 Z A (ap_Lid_feedCoil M (M.1 10)))]) [0] rfl
    have hD9 := hD.sub (ws' := [(A 12, xc12 Z A (ap_Lid_feedCoil M (M.1 10)))]) [0] (by decide) rfl
    exact W.zret (ty := .boolean) hx hb hr rfl (fun t ht hW => ⟨⟨0, (M.1 10), rfl, (by rw [F_Lid_feedCoil, if_pos h1]), xE_at hP9 hK hD9 ht hW⟩, hS.F ht⟩) hS.2.2 d_Lid_feedCoil_8
end
section
theorem xw1 {x z : Int32} (h : z = (if 1 < x then x else 1)) : ¬ z.toInt64 = 0 := by
  have hz : (1 : Int) ≤ z.toInt := by
    rw [h]
    split
    · rename_i h1
      have := Int32.lt_iff_toInt_lt.mp h1
      simp at this
      omega
    · simp
  intro q
  have q1 := congrArg Int64.toInt q
  rw [Int32.toInt_toInt64] at q1
  simp at q1
  omega
theorem xsp {x : Int64} (h : 0 ≤ lg_cmp x 60000) : ¬ x = 0 := by
  rw [lg_cmp_ge] at h
  intro q
  rw [q] at h
  exact absurd h (by decide)
theorem xgt {x : Int64} (h : 0 < lg_cmp x 0) : ¬ x = 0 := by
  intro q
  rw [q] at h
  exact absurd h (by decide)
theorem xnle {x : Int64} (h : ¬ lg_cmp x 0 ≤ 0) : ¬ x = 0 := by
  intro q
  rw [q] at h
  exact absurd (by decide) h
theorem xin_of {x : Int32} {n : Nat} (h0 : 0 ≤ x.toInt) (h1 : x.toInt < n) : vp_in x n := vp_in_iff.mpr ⟨h0, h1⟩
theorem xwit {M : XM} {x a b z : Int32} (h : ¬ z = 0) (hz : z = F_U_within M x a b) : a.toInt ≤ x.toInt ∧ x.toInt ≤ b.toInt := by
  rw [hz, F_U_within] at h
  split at h
  · exact absurd rfl h
  · split at h
    · exact absurd rfl h
    · rename_i h1 h2
      rw [Int32.lt_iff_toInt_lt] at h1 h2
      omega
theorem xex {M : XM} {x z : Int32} (h : ¬ z = 0) (hz : z = F_Rotors_exists M x) : vp_in x 4 := by
  have := xwit (z := z) h (by rw [hz, F_Rotors_exists, F_Rotors_exists_k2])
  refine xin_of ?_ ?_ <;> simp at this ⊢ <;> omega
theorem xsg (x : Int32) : 0 ≤ (x ^^^ 16) ↔ 0 ≤ x := by
  have e : (x ^^^ 16).toBitVec.msb = x.toBitVec.msb := by
    rw [Int32.toBitVec_xor, BitVec.msb_xor]
    have : (16 : Int32).toBitVec.msb = false := by decide
    rw [this]; simp
  have f : ∀ y : Int32, 0 ≤ y ↔ y.toBitVec.msb = false := by
    intro y
    have q : y.toInt = y.toBitVec.toInt := rfl
    rw [Int32.le_iff_toInt_le, BitVec.msb_eq_toInt, q]
    simp
  rw [f, f, e]
theorem xtm (a : Int) : -16 < a.tmod 16 ∧ a.tmod 16 < 16 := by
  refine ⟨?_, Int.tmod_lt_of_pos a (by decide)⟩
  have := Int.tmod_lt_of_pos (-a) (b := 16) (by decide)
  rw [Int.neg_tmod] at this
  omega
theorem xr16 (x : Int32) : (x - x / 16 * 16).toInt = x.toInt.tmod 16 := by
  have h1 := x.toInt_lt
  have h2 := x.le_toInt
  have t1 := Int.tmod_add_mul_tdiv x.toInt 16
  have t2 := xtm x.toInt
  have hd : (x / 16).toInt = x.toInt.tdiv 16 := by
    rw [Int32.toInt_div]
    refine Int.bmod_eq_of_le_mul_two ?_ ?_ <;> simp <;> omega
  rw [Int32.toInt_sub, Int32.toInt_mul, hd]
  simp
  rw [Int.bmod_eq_of_le_mul_two] <;> omega
theorem xfm16 (M : XM) (x : Int32) : vp_in (F_Math_floorMod M x 16) 16 := by
  have h1 := x.toInt_lt
  have t1 := Int.tmod_add_mul_tdiv x.toInt 16
  have t2 := Int.tmod_lt_of_pos x.toInt (b := 16) (by decide)
  have hr := xr16 x
  rw [vp_in_iff, F_Math_floorMod]
  split
  · rename_i h
    rw [xsg, Int32.le_iff_toInt_le] at h
    have t3 := Int.tmod_nonneg 16 (by simpa using h)
    rw [hr]
    exact ⟨t3, by simpa using t2⟩
  · rename_i h
    rw [xsg, Int32.le_iff_toInt_le] at h
    have t4 : -16 < x.toInt.tmod 16 := by
      exact (xtm x.toInt).1
    have t5 : x.toInt.tmod 16 ≤ 0 := by
      rw [show x.toInt = -(-x.toInt) by omega, Int.neg_tmod]
      have := Int.tmod_nonneg (a := -x.toInt) 16 (by simp at h; omega)
      omega
    split
    · rename_i h0
      rw [h0]; decide
    · rename_i h0
      have h0' : (x - x / 16 * 16).toInt ≠ 0 := fun q => h0 (Int32.toInt_inj.mp (by rw [q]; decide))
      rw [Int32.toInt_add, hr]
      rw [hr] at h0'
      simp
      rw [Int.bmod_eq_of_le_mul_two] <;> omega
end
section
abbrev bc_Model_microsecondsOfTurn : ByteArray := prog_4_method_3_code
def y_Model_microsecondsOfTurn : MethodName := ⟨"CentrifugeUnit$Model", "microsecondsOfTurn", "()J"⟩
theorem d_Model_microsecondsOfTurn_0 : decode bc_Model_microsecondsOfTurn 0 = .ok (.aload_n 0, 1) := by decide +kernel
theorem d_Model_microsecondsOfTurn_1 : decode bc_Model_microsecondsOfTurn 1 = .ok (.getfield 13, 3) := by decide +kernel
theorem d_Model_microsecondsOfTurn_4 : decode bc_Model_microsecondsOfTurn 4 = .ok (.ldc2_w 30, 3) := by decide +kernel
theorem d_Model_microsecondsOfTurn_7 : decode bc_Model_microsecondsOfTurn 7 = .ok (.lcmp, 1) := by decide +kernel
theorem d_Model_microsecondsOfTurn_8 : decode bc_Model_microsecondsOfTurn 8 = .ok (.ifCond .ge 7, 3) := by decide +kernel
theorem d_Model_microsecondsOfTurn_11 : decode bc_Model_microsecondsOfTurn 11 = .ok (.lconst 0, 1) := by decide +kernel
theorem d_Model_microsecondsOfTurn_12 : decode bc_Model_microsecondsOfTurn 12 = .ok (.goto 11, 3) := by decide +kernel
theorem d_Model_microsecondsOfTurn_15 : decode bc_Model_microsecondsOfTurn 15 = .ok (.ldc2_w 32, 3) := by decide +kernel
theorem d_Model_microsecondsOfTurn_18 : decode bc_Model_microsecondsOfTurn 18 = .ok (.aload_n 0, 1) := by decide +kernel
theorem d_Model_microsecondsOfTurn_19 : decode bc_Model_microsecondsOfTurn 19 = .ok (.getfield 13, 3) := by decide +kernel
theorem d_Model_microsecondsOfTurn_22 : decode bc_Model_microsecondsOfTurn 22 = .ok (.ldiv, 1) := by decide +kernel
theorem d_Model_microsecondsOfTurn_23 : decode bc_Model_microsecondsOfTurn 23 = .ok (.lreturn, 1) := by decide +kernel
def F_Model_microsecondsOfTurn (M : XM) : Int64 := (if 0 ≤ (lg_cmp (M.2.1 0) 60000) then (60000000000 / (M.2.1 0)) else 0)
set_option maxHeartbeats 4000000 in
set_option maxRecDepth 100000 in
theorem c_Model_microsecondsOfTurn (l : Launch) (dC : Nat → ClassId) (dI : Nat → Nat → Nat) (Z : Nat → ClassId) (A : Nat → Nat) (sz : Nat) (M : XM) : Met l y_Model_microsecondsOfTurn (.code y_Model_microsecondsOfTurn bc_Model_microsecondsOfTurn 1 (some .long) :: xw) ({ frames := 0, cells := 0, slots := 0, locals := 0 }) (va_Pc [.ref (A 10)] (xB (dC, dI) xcl (xty Z) sz [(A 10, xc10 Z A M)])) (k2_QcV (.long (F_Model_microsecondsOfTurn M))) 0 0 (fun _ => False) := by
  refine Met.ofW (cc := bc_Model_microsecondsOfTurn) (maxL := 1) (ret := (some .long)) (by decide) rfl ?_
  intro p e s m args below meth c s₁ B hml hv
  obtain ⟨rfl, hsz, hP, hK, hD0, hq⟩ := hv
  have hx := B.exec
  have hb := B.bytes
  have hr := B.returns
  have hts := atoms_spec (ws := (.code y_Model_microsecondsOfTurn bc_Model_microsecondsOfTurn 1 (some .long) :: xw)) B.pre
  have htt : ∀ w ∈ xw, w.before _ s = true := fun w h => hts w (List.mem_cons_of_mem _ h)
  have hown : s.vm.findClass "CentrifugeUnit$Model" = some m.cls := findClass_of_methodNamed B.named
  have hlocks := B.notSynchronized
  subst hsz
  have hD : va_D (fun _ => True) [(A 10, .inr (2, [.long (M.2.1 0)]))] := hD0
  have hP : va_P (dC, dI) xcl [(A 10, .inr (2, [.long (M.2.1 0)]))] s.heap := hP
  have hl := lv_entry ([.ref (A 10)]) (n := 1) (Nat.le_of_ble_eq_true rfl)
  rw [lg_entry_eq]
  generalize (lg_sl ([.ref (A 10)]) ++ List.replicate (1 - (lg_sl ([.ref (A 10)])).length) Slot.unset).toArray = ls at hl ⊢
  have hl : lv_has ls 1 [(0, .ref (A 10))] := hl
  refine lv_aload_n hx hb d_Model_microsecondsOfTurn_0 rfl (lv_at hl 0 rfl) ?_
  refine va_get (D := (dC, dI)) (ci := 2) (v := .long (M.2.1 0)) (C := "CentrifugeUnit$Model") (T := xF2) (N := 1) hx hb htt xin2 hown hK hP 0 rfl rfl 0 (by decide) (htt _ tw_84) (fun _ h9 => h9) rfl d_Model_microsecondsOfTurn_1 ?_
  refine lv_ldc2 (v := 60000) hx hb hown (htt _ tw_597) d_Model_microsecondsOfTurn_4 ?_
  refine W.lcmp hx hb d_Model_microsecondsOfTurn_7 ?_
  refine lv_if_ge (tgt := 15) hx hb d_Model_microsecondsOfTurn_8 rfl (fun h1 => ?_) (fun h1 => ?_)
  · refine lv_ldc2 (v := 60000000000) hx hb hown (htt _ tw_598) d_Model_microsecondsOfTurn_15 ?_
    refine lv_aload_n hx hb d_Model_microsecondsOfTurn_18 rfl (lv_at hl 0 rfl) ?_
    refine va_get (D := (dC, dI)) (ci := 2) (v := .long (M.2.1 0)) (C := "CentrifugeUnit$Model") (T := xF2) (N := 1) hx hb htt xin2 hown hK hP 0 rfl rfl 0 (by decide) (htt _ tw_84) (fun _ h9 => h9) rfl d_Model_microsecondsOfTurn_19 ?_
    refine lv_ldiv hx hb d_Model_microsecondsOfTurn_22 (xsp h1) ?_
    exact W.lret hx hb hr (fun t ht hW => ⟨(by rw [F_Model_microsecondsOfTurn, if_pos h1]), ht⟩) (fun _ h => absurd h List.not_mem_nil) d_Model_microsecondsOfTurn_23
  · refine lv_lconst (v := 0) hx hb d_Model_microsecondsOfTurn_11 (by decide) ?_
    refine lv_goto (tgt := 23) hx hb d_Model_microsecondsOfTurn_12 rfl ?_
    exact W.lret hx hb hr (fun t ht hW => ⟨(by rw [F_Model_microsecondsOfTurn, if_neg h1]), ht⟩) (fun _ h => absurd h List.not_mem_nil) d_Model_microsecondsOfTurn_23
abbrev bc_Model_countInTick : ByteArray := prog_4_method_4_code
def y_Model_countInTick : MethodName := ⟨"CentrifugeUnit$Model", "countInTick", "()J"⟩
theorem d_Model_countInTick_0 : decode bc_Model_countInTick 0 = .ok (.aload_n 0, 1) := by decide +kernel
theorem d_Model_countInTick_1 : decode bc_Model_countInTick 1 = .ok (.getfield 13, 3) := by decide +kernel
theorem d_Model_countInTick_4 : decode bc_Model_countInTick 4 = .ok (.ldc2_w 25, 3) := by decide +kernel
theorem d_Model_countInTick_7 : decode bc_Model_countInTick 7 = .ok (.ldiv, 1) := by decide +kernel
theorem d_Model_countInTick_8 : decode bc_Model_countInTick 8 = .ok (.lreturn, 1) := by decide +kernel
def F_Model_countInTick (M : XM) : Int64 := ((M.2.1 0) / 10000)
set_option maxHeartbeats 4000000 in
set_option maxRecDepth 100000 in
theorem c_Model_countInTick (l : Launch) (dC : Nat → ClassId) (dI : Nat → Nat → Nat) (Z : Nat → ClassId) (A : Nat → Nat) (sz : Nat) (M : XM) : Met l y_Model_countInTick (.code y_Model_countInTick bc_Model_countInTick 1 (some .long) :: xw) ({ frames := 0, cells := 0, slots := 0, locals := 0 }) (va_Pc [.ref (A 10)] (xB (dC, dI) xcl (xty Z) sz [(A 10, xc10 Z A M)])) (k2_QcV (.long (F_Model_countInTick M))) 0 0 (fun _ => False) := by
  refine Met.ofW (cc := bc_Model_countInTick) (maxL := 1) (ret := (some .long)) (by decide) rfl ?_
  intro p e s m args below meth c s₁ B hml hv
  obtain ⟨rfl, hsz, hP, hK, hD0, hq⟩ := hv
  have hx := B.exec
  have hb := B.bytes
  have hr := B.returns
  have hts := atoms_spec (ws := (.code y_Model_countInTick bc_Model_countInTick 1 (some .long) :: xw)) B.pre
  have htt : ∀ w ∈ xw, w.before _ s = true := fun w h => hts w (List.mem_cons_of_mem _ h)
  have hown : s.vm.findClass "CentrifugeUnit$Model" = some m.cls := findClass_of_methodNamed B.named
  have hlocks := B.notSynchronized
  subst hsz
  have hD : va_D (fun _ => True) [(A 10, .inr (2, [.long (M.2.1 0)]))] := hD0
  have hP : va_P (dC, dI) xcl [(A 10, .inr (2, [.long (M.2.1 0)]))] s.heap := hP
  have hl := lv_entry ([.ref (A 10)]) (n := 1) (Nat.le_of_ble_eq_true rfl)
  rw [lg_entry_eq]
  generalize (lg_sl ([.ref (A 10)]) ++ List.replicate (1 - (lg_sl ([.ref (A 10)])).length) Slot.unset).toArray = ls at hl ⊢
  have hl : lv_has ls 1 [(0, .ref (A 10))] := hl
  refine lv_aload_n hx hb d_Model_countInTick_0 rfl (lv_at hl 0 rfl) ?_
  refine va_get (D := (dC, dI)) (ci := 2) (v := .long (M.2.1 0)) (C := "CentrifugeUnit$Model") (T := xF2) (N := 1) hx hb htt xin2 hown hK hP 0 rfl rfl 0 (by decide) (htt _ tw_84) (fun _ h9 => h9) rfl d_Model_countInTick_1 ?_
  refine lv_ldc2 (v := 10000) hx hb hown (htt _ tw_603) d_Model_countInTick_4 ?_
  refine lv_ldiv hx hb d_Model_countInTick_7 (by decide) ?_
  exact W.lret hx hb hr (fun t ht hW => ⟨(by rw [F_Model_countInTick]), ht⟩) (fun _ h => absurd h List.not_mem_nil) d_Model_countInTick_8
abbrev bc_Model_move : ByteArray := prog_4_method_2_code
def y_Model_move : MethodName := ⟨"CentrifugeUnit$Model", "move", "(III)V"⟩
theorem d_Model_move_0 : decode bc_Model_move 0 = .ok (.iconst 1, 1) := by decide +kernel
theorem d_Model_move_1 : decode bc_Model_move 1 = .ok (.iload_n 3, 1) := by decide +kernel
theorem d_Model_move_2 : decode bc_Model_move 2 = .ok (.invokestatic 7, 3) := by decide +kernel
theorem d_Model_move_5 : decode bc_Model_move 5 = .ok (.i2l, 1) := by decide +kernel
theorem d_Model_move_6 : decode bc_Model_move 6 = .ok (.lstore 4, 2) := by decide +kernel
theorem d_Model_move_8 : decode bc_Model_move 8 = .ok (.aload_n 0, 1) := by decide +kernel
theorem d_Model_move_9 : decode bc_Model_move 9 = .ok (.dup, 1) := by decide +kernel
theorem d_Model_move_10 : decode bc_Model_move 10 = .ok (.getfield 13, 3) := by decide +kernel
theorem d_Model_move_13 : decode bc_Model_move 13 = .ok (.ldc2_w 19, 3) := by decide +kernel
theorem d_Model_move_16 : decode bc_Model_move 16 = .ok (.iload_n 1, 1) := by decide +kernel
theorem d_Model_move_17 : decode bc_Model_move 17 = .ok (.i2l, 1) := by decide +kernel
theorem d_Model_move_18 : decode bc_Model_move 18 = .ok (.lmul, 1) := by decide +kernel
theorem d_Model_move_19 : decode bc_Model_move 19 = .ok (.lload 4, 2) := by decide +kernel
theorem d_Model_move_21 : decode bc_Model_move 21 = .ok (.ldiv, 1) := by decide +kernel
theorem d_Model_move_22 : decode bc_Model_move 22 = .ok (.ladd, 1) := by decide +kernel
theorem d_Model_move_23 : decode bc_Model_move 23 = .ok (.putfield 13, 3) := by decide +kernel
theorem d_Model_move_26 : decode bc_Model_move 26 = .ok (.aload_n 0, 1) := by decide +kernel
theorem d_Model_move_27 : decode bc_Model_move 27 = .ok (.getfield 13, 3) := by decide +kernel
theorem d_Model_move_30 : decode bc_Model_move 30 = .ok (.ldc2_w 21, 3) := by decide +kernel
theorem d_Model_move_33 : decode bc_Model_move 33 = .ok (.ldiv, 1) := by decide +kernel
theorem d_Model_move_34 : decode bc_Model_move 34 = .ok (.ldc2_w 23, 3) := by decide +kernel
theorem d_Model_move_37 : decode bc_Model_move 37 = .ok (.ladd, 1) := by decide +kernel
theorem d_Model_move_38 : decode bc_Model_move 38 = .ok (.lstore 6, 2) := by decide +kernel
theorem d_Model_move_40 : decode bc_Model_move 40 = .ok (.ldc2_w 25, 3) := by decide +kernel
theorem d_Model_move_43 : decode bc_Model_move 43 = .ok (.iload_n 2, 1) := by decide +kernel
theorem d_Model_move_44 : decode bc_Model_move 44 = .ok (.i2l, 1) := by decide +kernel
theorem d_Model_move_45 : decode bc_Model_move 45 = .ok (.lmul, 1) := by decide +kernel
theorem d_Model_move_46 : decode bc_Model_move 46 = .ok (.lload 4, 2) := by decide +kernel
theorem d_Model_move_48 : decode bc_Model_move 48 = .ok (.ldiv, 1) := by decide +kernel
theorem d_Model_move_49 : decode bc_Model_move 49 = .ok (.lstore 8, 2) := by decide +kernel
theorem d_Model_move_51 : decode bc_Model_move 51 = .ok (.aload_n 0, 1) := by decide +kernel
theorem d_Model_move_52 : decode bc_Model_move 52 = .ok (.lconst 0, 1) := by decide +kernel
theorem d_Model_move_53 : decode bc_Model_move 53 = .ok (.aload_n 0, 1) := by decide +kernel
theorem d_Model_move_54 : decode bc_Model_move 54 = .ok (.getfield 13, 3) := by decide +kernel
theorem d_Model_move_57 : decode bc_Model_move 57 = .ok (.lload 6, 2) := by decide +kernel
theorem d_Model_move_59 : decode bc_Model_move 59 = .ok (.lsub, 1) := by decide +kernel
theorem d_Model_move_60 : decode bc_Model_move 60 = .ok (.lload 8, 2) := by decide +kernel
theorem d_Model_move_62 : decode bc_Model_move 62 = .ok (.lsub, 1) := by decide +kernel
theorem d_Model_move_63 : decode bc_Model_move 63 = .ok (.invokestatic 27, 3) := by decide +kernel
theorem d_Model_move_66 : decode bc_Model_move 66 = .ok (.putfield 13, 3) := by decide +kernel
theorem d_Model_move_69 : decode bc_Model_move 69 = .ok (.return_, 1) := by decide +kernel
abbrev ap_Model_move (M : XM) (u : Int64) : XM := (M.1, (va_up M.2.1 0 u), M.2.2)
def F_Model_move_k4 (M : XM) (a1 : Int32) (a2 : Int32) (a3 : Int32) (z1 : Int32) (z3 : Int64) : (Int64) := z3
def F_Model_move_k2 (M : XM) (a1 : Int32) (a2 : Int32) (a3 : Int32) (z1 : Int32) : (Int64) := (F_Model_move_k4 M a1 a2 a3 z1 (if ((((M.2.1 0) + ((1000 * (a1).toInt64) / (z1).toInt64)) - ((((M.2.1 0) + ((1000 * (a1).toInt64) / (z1).toInt64)) / 2000) + 200)) - ((10000 * (a2).toInt64) / (z1).toInt64)) < 0 then 0 else ((((M.2.1 0) + ((1000 * (a1).toInt64) / (z1).toInt64)) - ((((M.2.1 0) + ((1000 * (a1).toInt64) / (z1).toInt64)) / 2000) + 200)) - ((10000 * (a2).toInt64) / (z1).toInt64))))
def F_Model_move (M : XM) (a1 : Int32) (a2 : Int32) (a3 : Int32) : (Int64) := (F_Model_move_k2 M a1 a2 a3 (if 1 < a3 then a3 else 1))
set_option maxHeartbeats 4000000 in
set_option maxRecDepth 100000 in
theorem c_Model_move (l : Launch) (dC : Nat → ClassId) (dI : Nat → Nat → Nat) (Z : Nat → ClassId) (A : Nat → Nat) (sz : Nat) (M : XM) (a1 : Int32) (a2 : Int32) (a3 : Int32) : Met l y_Model_move (.code y_Model_move bc_Model_move 10 none :: xw) ({ frames := 1, cells := 0, slots := 0, locals := 23 }) (va_Pc [.ref (A 10), .int a1, .int a2, .int a3] (xB (dC, dI) xcl (xty Z) sz [(A 10, xc10 Z A M)])) (va_Qv (fun u : Int64 => u = F_Model_move M a1 a2 a3) (fun u => xE (dC, dI) xcl (xty Z) (va_A [(A 10, xc10 Z A M)] sz) [(A 10, xc10 Z A (ap_Model_move M u))]) (va_A [(A 10, xc10 Z A M)] sz)) 0 0 (va_A [(A 10, xc10 Z A M)] sz) := by
  refine Met.ofW (cc := bc_Model_move) (maxL := 10) (ret := none) (by decide) rfl ?_
  intro p e s m args below meth c s₁ B hml hv
  obtain ⟨rfl, hsz, hP, hK, hD0, hq⟩ := hv
  have hx := B.exec
  have hb := B.bytes
  have hr := B.returns
  have hts := atoms_spec (ws := (.code y_Model_move bc_Model_move 10 none :: xw)) B.pre
  have htt : ∀ w ∈ xw, w.before _ s = true := fun w h => hts w (List.mem_cons_of_mem _ h)
  have hown : s.vm.findClass "CentrifugeUnit$Model" = some m.cls := findClass_of_methodNamed B.named
  have hlocks := B.notSynchronized
  subst hsz
  have hD := hD0.self (sz := s.heap.size)
  generalize hAe : va_A [(A 10, xc10 Z A M)] s.heap.size = AA at hD ⊢
  have hA : ∀ q : Nat, s.heap.size ≤ q → AA q := fun q h => by rw [← hAe]; exact Or.inr h
  have hS : va_S AA s.heap s.heap [] := va_S.rf
  have hP : va_P (dC, dI) xcl [(A 10, .inr (2, [.long (M.2.1 0)]))] s.heap := hP
  have hD : va_D AA [(A 10, .inr (2, [.long (M.2.1 0)]))] := hD
  have hl := lv_entry ([.ref (A 10), .int a1, .int a2, .int a3]) (n := 10) (Nat.le_of_ble_eq_true rfl)
  rw [lg_entry_eq]
  generalize (lg_sl ([.ref (A 10), .int a1, .int a2, .int a3]) ++ List.replicate (10 - (lg_sl ([.ref (A 10), .int a1, .int a2, .int a3])).length) Slot.unset).toArray = ls at hl ⊢
  have hl : lv_has ls 10 [(0, .ref (A 10)), (1, .int a1), (2, .int a2), (3, .int a3)] := hl
  refine lv_iconst (v := 1) hx hb d_Model_move_0 (by decide) ?_
  refine lv_iload_n hx hb d_Model_move_1 rfl (lv_at hl 3 rfl) ?_
  refine va_mmax hx hb (hml.trans hl.1.symm) hown (htt _ tw_725) (htt _ tw_611) (htt _ tw_18) (htt _ tw_612) (Nat.le_of_ble_eq_true rfl) (Nat.le_of_ble_eq_true rfl) (Nat.le_of_ble_eq_true rfl) (Nat.le_of_ble_eq_true rfl) d_Model_move_2 ?_
  refine lv_topi (fun z1 hz1 => ?_)
  refine lv_i2l (v := (z1).toInt64) hx hb d_Model_move_5 rfl ?_
  refine lv_lstore (lv' := [(4, .long (z1).toInt64), (0, .ref (A 10)), (1, .int a1), (2, .int a2), (3, .int a3)]) hx hb d_Model_move_6 hl (by decide) rfl (fun ls hl => ?_)
  refine lv_aload_n hx hb d_Model_move_8 rfl (lv_at hl 1 rfl) ?_
  refine lv_dup hx hb d_Model_move_9 rfl ?_
  refine va_get (D := (dC, dI)) (ci := 2) (v := .long (M.2.1 0)) (C := "CentrifugeUnit$Model") (T := xF2) (N := 1) hx hb htt xin2 hown hK hP 0 rfl rfl 0 (by decide) (htt _ tw_84) (fun _ h9 => h9) rfl d_Model_move_10 ?_
  refine lv_ldc2 (v := 1000) hx hb hown (htt _ tw_726) d_Model_move_13 ?_
  refine lv_iload_n hx hb d_Model_move_16 rfl (lv_at hl 2 rfl) ?_
  refine lv_i2l (v := (a1).toInt64) hx hb d_Model_move_17 rfl ?_
  refine lv_lmul hx hb d_Model_move_18 ?_
  refine lv_lload hx hb d_Model_move_19 (lv_at hl 0 rfl) ?_
  refine lv_ldiv hx hb d_Model_move_21 (xw1 hz1) ?_
  refine lv_ladd hx hb d_Model_move_22 ?_
  refine va_put (D := (dC, dI)) (ci := 2) (v := .long ((M.2.1 0) + ((1000 * (a1).toInt64) / (z1).toInt64))) (ty := .long) (C := "CentrifugeUnit$Model") (T := xF2) (N := 1) hx hb htt xin2 xT2 xTo2 xNm2 hown hK hP hD hS 0 rfl rfl 0 (by decide) (htt _ tw_84) (fun _ h9 => h9) rfl (by decide +kernel) rfl rfl (Nat.le_of_ble_eq_true rfl) d_Model_move_23 (fun H locs hP hD hS => ?_)
  have hP : va_P (dC, dI) xcl [(A 10, .inr (2, [.long ((M.2.1 0) + ((1000 * (a1).toInt64) / (z1).toInt64))]))] H := hP
  have hD : va_D AA [(A 10, .inr (2, [.long ((M.2.1 0) + ((1000 * (a1).toInt64) / (z1).toInt64))]))] := hD
  refine lv_aload_n hx hb d_Model_move_26 rfl (lv_at hl 1 rfl) ?_
  refine va_get (D := (dC, dI)) (ci := 2) (v := .long ((M.2.1 0) + ((1000 * (a1).toInt64) / (z1).toInt64))) (C := "CentrifugeUnit$Model") (T := xF2) (N := 1) hx hb htt xin2 hown hK hP 0 rfl rfl 0 (by decide) (htt _ tw_84) (fun _ h9 => h9) rfl d_Model_move_27 ?_
  refine lv_ldc2 (v := 2000) hx hb hown (htt _ tw_727) d_Model_move_30 ?_
  refine lv_ldiv hx hb d_Model_move_33 (by decide) ?_
  refine lv_ldc2 (v := 200) hx hb hown (htt _ tw_728) d_Model_move_34 ?_
  refine lv_ladd hx hb d_Model_move_37 ?_
  refine lv_lstore (lv' := [(6, .long ((((M.2.1 0) + ((1000 * (a1).toInt64) / (z1).toInt64)) / 2000) + 200)), (4, .long (z1).toInt64), (0, .ref (A 10)), (1, .int a1), (2, .int a2), (3, .int a3)]) hx hb d_Model_move_38 hl (by decide) rfl (fun ls hl => ?_)
  refine lv_ldc2 (v := 10000) hx hb hown (htt _ tw_603) d_Model_move_40 ?_
  refine lv_iload_n hx hb d_Model_move_43 rfl (lv_at hl 4 rfl) ?_
  refine lv_i2l (v := (a2).toInt64) hx hb d_Model_move_44 rfl ?_
  refine lv_lmul hx hb d_Model_move_45 ?_
  refine lv_lload hx hb d_Model_move_46 (lv_at hl 1 rfl) ?_
  refine lv_ldiv hx hb d_Model_move_48 (xw1 hz1) ?_
  refine lv_lstore (lv' := [(8, .long ((10000 * (a2).toInt64) / (z1).toInt64)), (6, .long ((((M.2.1 0) + ((1000 * (a1).toInt64) / (z1).toInt64)) / 2000) + 200)), (4, .long (z1).toInt64), (0, .ref (A 10)), (1, .int a1), (2, .int a2), (3, .int a3)]) hx hb d_Model_move_49 hl (by decide) rfl (fun ls hl => ?_)
  refine lv_aload_n hx hb d_Model_move_51 rfl (lv_at hl 3 rfl) ?_
  refine lv_lconst (v := 0) hx hb d_Model_move_52 (by decide) ?_
  refine lv_aload_n hx hb d_Model_move_53 rfl (lv_at hl 3 rfl) ?_
  refine va_get (D := (dC, dI)) (ci := 2) (v := .long ((M.2.1 0) + ((1000 * (a1).toInt64) / (z1).toInt64))) (C := "CentrifugeUnit$Model") (T := xF2) (N := 1) hx hb htt xin2 hown hK hP 0 rfl rfl 0 (by decide) (htt _ tw_84) (fun _ h9 => h9) rfl d_Model_move_54 ?_
  refine lv_lload hx hb d_Model_move_57 (lv_at hl 1 rfl) ?_
  refine lv_lsub hx hb d_Model_move_59 ?_
  refine lv_lload hx hb d_Model_move_60 (lv_at hl 0 rfl) ?_
  refine lv_lsub hx hb d_Model_move_62 ?_
  refine va_mmax_long hx hb (hml.trans hl.1.symm) hown (htt _ tw_729) (htt _ tw_730) (htt _ tw_18) (htt _ tw_731) (Nat.le_of_ble_eq_true rfl) (Nat.le_of_ble_eq_true rfl) (Nat.le_of_ble_eq_true rfl) (Nat.le_of_ble_eq_true rfl) d_Model_move_63 ?_
  refine lv_topl (fun z3 hz3 => ?_)
  refine va_put (D := (dC, dI)) (ci := 2) (v := .long z3) (ty := .long) (C := "CentrifugeUnit$Model") (T := xF2) (N := 1) hx hb htt xin2 xT2 xTo2 xNm2 hown hK hP hD hS 0 rfl rfl 0 (by decide) (htt _ tw_84) (fun _ h9 => h9) rfl (by decide +kernel) rfl rfl (Nat.le_of_ble_eq_true rfl) d_Model_move_66 (fun H locs hP hD hS => ?_)
  have hP : va_P (dC, dI) xcl [(A 10, .inr (2, [.long z3]))] H := hP
  have hD : va_D AA [(A 10, .inr (2, [.long z3]))] := hD
  have hP9 := hP.sub (ws' := [(A 10, xc10 Z A (ap_Model_move M z3))]) [0] rfl
  have hD9 := hD.sub (ws' := [(A 10, xc10 Z A (ap_Model_move M z3))]) [0] (by decide) rfl
  exact W.vret hx hb hr (fun t ht hW => ⟨⟨z3, rfl, (by rw [F_Model_move, ← hz1, F_Model_move_k2, ← hz3, F_Model_move_k4]), xE_at hP9 hK hD9 ht hW⟩, hS.F ht⟩) hS.2.2 d_Model_move_69
abbrev bc_Records_keeps : ByteArray := prog_6_method_3_code
def y_Records_keeps : MethodName := ⟨"CentrifugeUnit$Records", "keeps", "(I)Z"⟩
theorem d_Records_keeps_0 : decode bc_Records_keeps 0 = .ok (.iload_n 1, 1) := by decide +kernel
theorem d_Records_keeps_1 : decode bc_Records_keeps 1 = .ok (.ifCond .lt 26, 3) := by decide +kernel
theorem d_Records_keeps_4 : decode bc_Records_keeps 4 = .ok (.iload_n 1, 1) := by decide +kernel
theorem d_Records_keeps_5 : decode bc_Records_keeps 5 = .ok (.aload_n 0, 1) := by decide +kernel
theorem d_Records_keeps_6 : decode bc_Records_keeps 6 = .ok (.getfield 20, 3) := by decide +kernel
theorem d_Records_keeps_9 : decode bc_Records_keeps 9 = .ok (.if_icmp .ge 18, 3) := by decide +kernel
theorem d_Records_keeps_12 : decode bc_Records_keeps 12 = .ok (.iload_n 1, 1) := by decide +kernel
theorem d_Records_keeps_13 : decode bc_Records_keeps 13 = .ok (.aload_n 0, 1) := by decide +kernel
theorem d_Records_keeps_14 : decode bc_Records_keeps 14 = .ok (.getfield 20, 3) := by decide +kernel
theorem d_Records_keeps_17 : decode bc_Records_keeps 17 = .ok (.bipush 16, 2) := by decide +kernel
theorem d_Records_keeps_19 : decode bc_Records_keeps 19 = .ok (.isub, 1) := by decide +kernel
theorem d_Records_keeps_20 : decode bc_Records_keeps 20 = .ok (.if_icmp .lt 7, 3) := by decide +kernel
theorem d_Records_keeps_23 : decode bc_Records_keeps 23 = .ok (.iconst 1, 1) := by decide +kernel
theorem d_Records_keeps_24 : decode bc_Records_keeps 24 = .ok (.goto 4, 3) := by decide +kernel
theorem d_Records_keeps_27 : decode bc_Records_keeps 27 = .ok (.iconst 0, 1) := by decide +kernel
theorem d_Records_keeps_28 : decode bc_Records_keeps 28 = .ok (.ireturn, 1) := by decide +kernel
def F_Records_keeps (M : XM) (a1 : Int32) : Int32 := (if a1 < 0 then 0 else (if (M.1 11) ≤ a1 then 0 else (if a1 < ((M.1 11) - 16) then 0 else 1)))
theorem f01_Records_keeps (M : XM) (a1 : Int32) : F_Records_keeps M a1 = 0 ∨ F_Records_keeps M a1 = 1 := by
  simp only [F_Records_keeps]; repeat' split
  all_goals first | exact Or.inl rfl | exact Or.inr rfl | simp
set_option maxHeartbeats 4000000 in
set_option maxRecDepth 100000 in
theorem c_Records_keeps (l : Launch) (dC : Nat → ClassId) (dI : Nat → Nat → Nat) (Z : Nat → ClassId) (A : Nat → Nat) (sz : Nat) (M : XM) (a1 : Int32) : Met l y_Records_keeps (.code y_Records_keeps bc_Records_keeps 2 (some .boolean) :: xw) ({ frames := 0, cells := 0, slots := 0, locals := 0 }) (va_Pc [.ref (A 13), .int a1] (xB (dC, dI) xcl (xty Z) sz [(A 13, xc13 Z A M)])) (k2_QcV (.int (F_Records_keeps M a1))) 0 0 (fun _ => False) := by
  refine Met.ofW (cc := bc_Records_keeps) (maxL := 2) (ret := (some .boolean)) (by decide) rfl ?_
  intro p e s m args below meth c s₁ B hml hv
  obtain ⟨rfl, hsz, hP, hK, hD0, hq⟩ := hv
  have hx := B.exec
  have hb := B.bytes
  have hr := B.returns
  have hts := atoms_spec (ws := (.code y_Records_keeps bc_Records_keeps 2 (some .boolean) :: xw)) B.pre
  have htt : ∀ w ∈ xw, w.before _ s = true := fun w h => hts w (List.mem_cons_of_mem _ h)
  have hown : s.vm.findClass "CentrifugeUnit$Records" = some m.cls := findClass_of_methodNamed B.named
  have hlocks := B.notSynchronized
  subst hsz
  have hD : va_D (fun _ => True) [(A 13, .inr (4, [.ref (A 14), .ref (A 15), .ref (A 16), .int (M.1 11)]))] := hD0
  have hP : va_P (dC, dI) xcl [(A 13, .inr (4, [.ref (A 14), .ref (A 15), .ref (A 16), .int (M.1 11)]))] s.heap := hP
  have hl := lv_entry ([.ref (A 13), .int a1]) (n := 2) (Nat.le_of_ble_eq_true rfl)
  rw [lg_entry_eq]
  generalize (lg_sl ([.ref (A 13), .int a1]) ++ List.replicate (2 - (lg_sl ([.ref (A 13), .int a1])).length) Slot.unset).toArray = ls at hl ⊢
  have hl : lv_has ls 2 [(0, .ref (A 13)), (1, .int a1)] := hl
  refine lv_iload_n hx hb d_Records_keeps_0 rfl (lv_at hl 1 rfl) ?_
  refine lv_if_lt (tgt := 27) hx hb d_Records_keeps_1 rfl (fun h1 => ?_) (fun h1 => ?_)
  · refine lv_iconst (v := 0) hx hb d_Records_keeps_27 (by decide) ?_
    exact W.zret (ty := .boolean) hx hb hr rfl (fun t ht hW => ⟨(by rw [F_Records_keeps, if_pos h1]), ht⟩) (fun _ h => absurd h List.not_mem_nil) d_Records_keeps_28
  · refine lv_iload_n hx hb d_Records_keeps_4 rfl (lv_at hl 1 rfl) ?_
    refine lv_aload_n hx hb d_Records_keeps_5 rfl (lv_at hl 0 rfl) ?_
    refine va_get (D := (dC, dI)) (ci := 4) (v := .int (M.1 11)) (C := "CentrifugeUnit$Records") (T := xF4) (N := 4) hx hb htt xin4 hown hK hP 0 rfl rfl 3 (by decide) (htt _ tw_150) (fun _ h9 => h9) rfl d_Records_keeps_6 ?_
    refine lv_icmp_ge (tgt := 27) hx hb d_Records_keeps_9 rfl (fun h2 => ?_) (fun h2 => ?_)
    · refine lv_iconst (v := 0) hx hb d_Records_keeps_27 (by decide) ?_
      exact W.zret (ty := .boolean) hx hb hr rfl (fun t ht hW => ⟨(by rw [F_Records_keeps, if_neg h1, if_pos h2]), ht⟩) (fun _ h => absurd h List.not_mem_nil) d_Records_keeps_28
    · refine lv_iload_n hx hb d_Records_keeps_12 rfl (lv_at hl 1 rfl) ?_
      refine lv_aload_n hx hb d_Records_keeps_13 rfl (lv_at hl 0 rfl) ?_
      refine va_get (D := (dC, dI)) (ci := 4) (v := .int (M.1 11)) (C := "CentrifugeUnit$Records") (T := xF4) (N := 4) hx hb htt xin4 hown hK hP 0 rfl rfl 3 (by decide) (htt _ tw_150) (fun _ h9 => h9) rfl d_Records_keeps_14 ?_
      refine lv_bipush (v := 16) hx hb d_Records_keeps_17 (by decide) ?_
      refine lv_isub hx hb d_Records_keeps_19 ?_
      refine lv_icmp_lt (tgt := 27) hx hb d_Records_keeps_20 rfl (fun h3 => ?_) (fun h3 => ?_)
      · refine lv_iconst (v := 0) hx hb d_Records_keeps_27 (by decide) ?_
        exact W.zret (ty := .boolean) hx hb hr rfl (fun t ht hW => ⟨(by rw [F_Records_keeps, if_neg h1, if_neg h2, if_pos h3]), ht⟩) (fun _ h => absurd h List.not_mem_nil) d_Records_keeps_28
      · refine lv_iconst (v := 1) hx hb d_Records_keeps_23 (by decide) ?_
        refine lv_goto (tgt := 28) hx hb d_Records_keeps_24 rfl ?_
        exact W.zret (ty := .boolean) hx hb hr rfl (fun t ht hW => ⟨(by rw [F_Records_keeps, if_neg h1, if_neg h2, if_neg h3]), ht⟩) (fun _ h => absurd h List.not_mem_nil) d_Records_keeps_28
abbrev bc_Records_entry : ByteArray := prog_6_method_4_code
def y_Records_entry : MethodName := ⟨"CentrifugeUnit$Records", "entry", "(II)J"⟩
theorem d_Records_entry_0 : decode bc_Records_entry 0 = .ok (.iload_n 1, 1) := by decide +kernel
theorem d_Records_entry_1 : decode bc_Records_entry 1 = .ok (.bipush 16, 2) := by decide +kernel
theorem d_Records_entry_3 : decode bc_Records_entry 3 = .ok (.invokestatic 24, 3) := by decide +kernel
theorem d_Records_entry_6 : decode bc_Records_entry 6 = .ok (.istore_n 3, 1) := by decide +kernel
theorem d_Records_entry_7 : decode bc_Records_entry 7 = .ok (.iload_n 2, 1) := by decide +kernel
theorem d_Records_entry_8 : decode bc_Records_entry 8 = .ok (.lookupswitch 43 #[(0, 28), (1, 36)], 28) := by decide +kernel
theorem d_Records_entry_36 : decode bc_Records_entry 36 = .ok (.aload_n 0, 1) := by decide +kernel
theorem d_Records_entry_37 : decode bc_Records_entry 37 = .ok (.getfield 9, 3) := by decide +kernel
theorem d_Records_entry_40 : decode bc_Records_entry 40 = .ok (.iload_n 3, 1) := by decide +kernel
theorem d_Records_entry_41 : decode bc_Records_entry 41 = .ok (.iaload, 1) := by decide +kernel
theorem d_Records_entry_42 : decode bc_Records_entry 42 = .ok (.i2l, 1) := by decide +kernel
theorem d_Records_entry_43 : decode bc_Records_entry 43 = .ok (.lreturn, 1) := by decide +kernel
theorem d_Records_entry_44 : decode bc_Records_entry 44 = .ok (.aload_n 0, 1) := by decide +kernel
theorem d_Records_entry_45 : decode bc_Records_entry 45 = .ok (.getfield 13, 3) := by decide +kernel
theorem d_Records_entry_48 : decode bc_Records_entry 48 = .ok (.iload_n 3, 1) := by decide +kernel
theorem d_Records_entry_49 : decode bc_Records_entry 49 = .ok (.laload, 1) := by decide +kernel
theorem d_Records_entry_50 : decode bc_Records_entry 50 = .ok (.lreturn, 1) := by decide +kernel
theorem d_Records_entry_51 : decode bc_Records_entry 51 = .ok (.aload_n 0, 1) := by decide +kernel
theorem d_Records_entry_52 : decode bc_Records_entry 52 = .ok (.getfield 17, 3) := by decide +kernel
theorem d_Records_entry_55 : decode bc_Records_entry 55 = .ok (.iload_n 3, 1) := by decide +kernel
theorem d_Records_entry_56 : decode bc_Records_entry 56 = .ok (.iaload, 1) := by decide +kernel
theorem d_Records_entry_57 : decode bc_Records_entry 57 = .ok (.i2l, 1) := by decide +kernel
theorem d_Records_entry_58 : decode bc_Records_entry 58 = .ok (.lreturn, 1) := by decide +kernel
def F_Records_entry_k2 (M : XM) (a1 : Int32) (a2 : Int32) (z1 : Int32) : Int64 := (if a2 = 0 then (((M.2.2.1 14) (z1).toNatClampNeg)).toInt64 else (if a2 = 1 then ((M.2.2.2 15) (z1).toNatClampNeg) else (((M.2.2.1 16) (z1).toNatClampNeg)).toInt64))
def F_Records_entry (M : XM) (a1 : Int32) (a2 : Int32) : Int64 := (F_Records_entry_k2 M a1 a2 (F_Math_floorMod M a1 16))
set_option maxHeartbeats 4000000 in
set_option maxRecDepth 100000 in
theorem c_Records_entry (l : Launch) (dC : Nat → ClassId) (dI : Nat → Nat → Nat) (Z : Nat → ClassId) (A : Nat → Nat) (sz : Nat) (M : XM) (a1 : Int32) (a2 : Int32) : Met l y_Records_entry (.code y_Records_entry bc_Records_entry 4 (some .long) :: xw) ({ frames := 1, cells := 0, slots := 0, locals := 22 }) (va_Pc [.ref (A 13), .int a1, .int a2] (xB (dC, dI) xcl (xty Z) sz [(A 13, xc13 Z A M), (A 14, xc14 Z A M), (A 15, xc15 Z A M), (A 16, xc16 Z A M)])) (k2_QcV (.long (F_Records_entry M a1 a2))) 0 0 (fun _ => False) := by
  refine Met.ofW (cc := bc_Records_entry) (maxL := 4) (ret := (some .long)) (by decide) rfl ?_
  intro p e s m args below meth c s₁ B hml hv
  obtain ⟨rfl, hsz, hP, hK, hD0, hq⟩ := hv
  have hx := B.exec
  have hb := B.bytes
  have hr := B.returns
  have hts := atoms_spec (ws := (.code y_Records_entry bc_Records_entry 4 (some .long) :: xw)) B.pre
  have htt : ∀ w ∈ xw, w.before _ s = true := fun w h => hts w (List.mem_cons_of_mem _ h)
  have hown : s.vm.findClass "CentrifugeUnit$Records" = some m.cls := findClass_of_methodNamed B.named
  have hlocks := B.notSynchronized
  subst hsz
  have hD : va_D (fun _ => True) [(A 13, .inr (4, [.ref (A 14), .ref (A 15), .ref (A 16), .int (M.1 11)])), (A 14, .inl (Z 0, 16, .inl (M.2.2.1 14))), (A 15, .inl (Z 1, 16, .inr (.inl (M.2.2.2 15)))), (A 16, .inl (Z 0, 16, .inl (M.2.2.1 16)))] := hD0
  have hP : va_P (dC, dI) xcl [(A 13, .inr (4, [.ref (A 14), .ref (A 15), .ref (A 16), .int (M.1 11)])), (A 14, .inl (Z 0, 16, .inl (M.2.2.1 14))), (A 15, .inl (Z 1, 16, .inr (.inl (M.2.2.2 15)))), (A 16, .inl (Z 0, 16, .inl (M.2.2.1 16)))] s.heap := hP
  have hl := lv_entry ([.ref (A 13), .int a1, .int a2]) (n := 4) (Nat.le_of_ble_eq_true rfl)
  rw [lg_entry_eq]
  generalize (lg_sl ([.ref (A 13), .int a1, .int a2]) ++ List.replicate (4 - (lg_sl ([.ref (A 13), .int a1, .int a2])).length) Slot.unset).toArray = ls at hl ⊢
  have hl : lv_has ls 4 [(0, .ref (A 13)), (1, .int a1), (2, .int a2)] := hl
  refine lv_iload_n hx hb d_Records_entry_0 rfl (lv_at hl 1 rfl) ?_
  refine lv_bipush (v := 16) hx hb d_Records_entry_1 (by decide) ?_
  have hPc := hP.sub (ws' := []) [] rfl
  have hDc := hD.sub (ws' := []) [] (by decide) rfl
  refine xk_p (va_runS (As := [.int a1, .int 16]) (rest := []) ⟨hx, hb, hml, hown, hts⟩ (c_Math_floorMod l dC dI Z A _ M a1 16 (by decide)) (va_cwS 2 hts (xw_S _ tw_710 tw_711 tw_18 tw_712) rfl rfl rfl (by decide +kernel) ⟨Nat.le_of_ble_eq_true rfl, Nat.le_of_ble_eq_true rfl⟩) ⟨xB_blind, fun U hU hW => ⟨rfl, xB_at hPc hK hDc hq U hU hW⟩⟩ rfl rfl hl.1 rfl (lv_room (Nat.le_of_ble_eq_true rfl)) d_Records_entry_3 ⟨Nat.le_of_ble_eq_true rfl, Nat.le_of_ble_eq_true rfl⟩) ?_
  refine lv_topi (fun z1 hz1 => ?_)
  refine lv_istore_n (lv' := [(3, .int z1), (0, .ref (A 13)), (1, .int a1), (2, .int a2)]) hx hb d_Records_entry_6 rfl hl (by decide) rfl (fun ls hl => ?_)
  refine lv_iload_n hx hb d_Records_entry_7 rfl (lv_at hl 3 rfl) ?_
  by_cases h3 : a2 = 0
  · refine lv_lookup (off := 28) (tgt := 36) hx hb d_Records_entry_8 (by decide) (by rw [h3]; decide) rfl ?_
    refine lv_aload_n hx hb d_Records_entry_36 rfl (lv_at hl 1 rfl) ?_
    refine va_get (D := (dC, dI)) (ci := 4) (v := .ref (A 14)) (C := "CentrifugeUnit$Records") (T := xF4) (N := 4) hx hb htt xin4 hown hK hP 0 rfl rfl 0 (by decide) (htt _ tw_147) (fun _ h9 => h9) rfl d_Records_entry_37 ?_
    refine lv_iload_n hx hb d_Records_entry_40 rfl (lv_at hl 0 rfl) ?_
    refine va_iald (D := (dC, dI)) hx hb hK hP 1 0 rfl rfl (by rw [hz1]; exact xfm16 _ _) d_Records_entry_41 ?_
    refine lv_i2l (v := (((M.2.2.1 14) (z1).toNatClampNeg)).toInt64) hx hb d_Records_entry_42 rfl ?_
    exact W.lret hx hb hr (fun t ht hW => ⟨(by rw [F_Records_entry, ← hz1, F_Records_entry_k2, if_pos h3]), ht⟩) (fun _ h => absurd h List.not_mem_nil) d_Records_entry_43
  by_cases h4 : a2 = 1
  · refine lv_lookup (off := 36) (tgt := 44) hx hb d_Records_entry_8 (by decide) (by rw [h4]; decide) rfl ?_
    refine lv_aload_n hx hb d_Records_entry_44 rfl (lv_at hl 1 rfl) ?_
    refine va_get (D := (dC, dI)) (ci := 4) (v := .ref (A 15)) (C := "CentrifugeUnit$Records") (T := xF4) (N := 4) hx hb htt xin4 hown hK hP 0 rfl rfl 1 (by decide) (htt _ tw_148) (fun _ h9 => h9) rfl d_Records_entry_45 ?_
    refine lv_iload_n hx hb d_Records_entry_48 rfl (lv_at hl 0 rfl) ?_
    refine va_lald (D := (dC, dI)) hx hb hK hP 2 1 rfl rfl (by rw [hz1]; exact xfm16 _ _) d_Records_entry_49 ?_
    exact W.lret hx hb hr (fun t ht hW => ⟨(by rw [F_Records_entry, ← hz1, F_Records_entry_k2, if_neg h3, if_pos h4]), ht⟩) (fun _ h => absurd h List.not_mem_nil) d_Records_entry_50
  refine lv_lookup (off := 43) (tgt := 51) hx hb d_Records_entry_8 (by decide) (by rw [lv_osw h3 (by decide)]; rw [lv_osw h4 (by decide)]; rfl) rfl ?_
  refine lv_aload_n hx hb d_Records_entry_51 rfl (lv_at hl 1 rfl) ?_
  refine va_get (D := (dC, dI)) (ci := 4) (v := .ref (A 16)) (C := "CentrifugeUnit$Records") (T := xF4) (N := 4) hx hb htt xin4 hown hK hP 0 rfl rfl 2 (by decide) (htt _ tw_149) (fun _ h9 => h9) rfl d_Records_entry_52 ?_
  refine lv_iload_n hx hb d_Records_entry_55 rfl (lv_at hl 0 rfl) ?_
  refine va_iald (D := (dC, dI)) hx hb hK hP 3 0 rfl rfl (by rw [hz1]; exact xfm16 _ _) d_Records_entry_56 ?_
  refine lv_i2l (v := (((M.2.2.1 16) (z1).toNatClampNeg)).toInt64) hx hb d_Records_entry_57 rfl ?_
  exact W.lret hx hb hr (fun t ht hW => ⟨(by rw [F_Records_entry, ← hz1, F_Records_entry_k2, if_neg h3, if_neg h4]), ht⟩) (fun _ h => absurd h List.not_mem_nil) d_Records_entry_58
abbrev bc_Records_add : ByteArray := prog_6_method_2_code
def y_Records_add : MethodName := ⟨"CentrifugeUnit$Records", "add", "(IJI)V"⟩
theorem d_Records_add_0 : decode bc_Records_add 0 = .ok (.aload_n 0, 1) := by decide +kernel
theorem d_Records_add_1 : decode bc_Records_add 1 = .ok (.getfield 20, 3) := by decide +kernel
theorem d_Records_add_4 : decode bc_Records_add 4 = .ok (.bipush 16, 2) := by decide +kernel
theorem d_Records_add_6 : decode bc_Records_add 6 = .ok (.invokestatic 24, 3) := by decide +kernel
theorem d_Records_add_9 : decode bc_Records_add 9 = .ok (.istore 5, 2) := by decide +kernel
theorem d_Records_add_11 : decode bc_Records_add 11 = .ok (.aload_n 0, 1) := by decide +kernel
theorem d_Records_add_12 : decode bc_Records_add 12 = .ok (.getfield 9, 3) := by decide +kernel
theorem d_Records_add_15 : decode bc_Records_add 15 = .ok (.iload 5, 2) := by decide +kernel
theorem d_Records_add_17 : decode bc_Records_add 17 = .ok (.iload_n 1, 1) := by decide +kernel
theorem d_Records_add_18 : decode bc_Records_add 18 = .ok (.iastore, 1) := by decide +kernel
theorem d_Records_add_19 : decode bc_Records_add 19 = .ok (.aload_n 0, 1) := by decide +kernel
theorem d_Records_add_20 : decode bc_Records_add 20 = .ok (.getfield 13, 3) := by decide +kernel
theorem d_Records_add_23 : decode bc_Records_add 23 = .ok (.iload 5, 2) := by decide +kernel
theorem d_Records_add_25 : decode bc_Records_add 25 = .ok (.lload_n 2, 1) := by decide +kernel
theorem d_Records_add_26 : decode bc_Records_add 26 = .ok (.lastore, 1) := by decide +kernel
theorem d_Records_add_27 : decode bc_Records_add 27 = .ok (.aload_n 0, 1) := by decide +kernel
theorem d_Records_add_28 : decode bc_Records_add 28 = .ok (.getfield 17, 3) := by decide +kernel
theorem d_Records_add_31 : decode bc_Records_add 31 = .ok (.iload 5, 2) := by decide +kernel
theorem d_Records_add_33 : decode bc_Records_add 33 = .ok (.iload 4, 2) := by decide +kernel
theorem d_Records_add_35 : decode bc_Records_add 35 = .ok (.iastore, 1) := by decide +kernel
theorem d_Records_add_36 : decode bc_Records_add 36 = .ok (.aload_n 0, 1) := by decide +kernel
theorem d_Records_add_37 : decode bc_Records_add 37 = .ok (.dup, 1) := by decide +kernel
theorem d_Records_add_38 : decode bc_Records_add 38 = .ok (.getfield 20, 3) := by decide +kernel
theorem d_Records_add_41 : decode bc_Records_add 41 = .ok (.iconst 1, 1) := by decide +kernel
theorem d_Records_add_42 : decode bc_Records_add 42 = .ok (.iadd, 1) := by decide +kernel
theorem d_Records_add_43 : decode bc_Records_add 43 = .ok (.putfield 20, 3) := by decide +kernel
theorem d_Records_add_46 : decode bc_Records_add 46 = .ok (.return_, 1) := by decide +kernel
abbrev ap_Records_add (M : XM) (u : ((Nat → Int32) × (Nat → Int64) × (Nat → Int32) × Int32)) : XM := ((va_up M.1 11 (u.2.2.2)), M.2.1, (va_up (va_up M.2.2.1 14 (u.1)) 16 (u.2.2.1)), (va_up M.2.2.2 15 (u.2.1)))
def F_Records_add_k2 (M : XM) (a1 : Int32) (a2 : Int64) (a3 : Int32) (z1 : Int32) : ((Nat → Int32) × (Nat → Int64) × (Nat → Int32) × Int32) := ((upd (M.2.2.1 14) (z1).toNatClampNeg a1), (vp_updL (M.2.2.2 15) (z1).toNatClampNeg a2), (upd (M.2.2.1 16) (z1).toNatClampNeg a3), ((M.1 11) + 1))
def F_Records_add (M : XM) (a1 : Int32) (a2 : Int64) (a3 : Int32) : ((Nat → Int32) × (Nat → Int64) × (Nat → Int32) × Int32) := (F_Records_add_k2 M a1 a2 a3 (F_Math_floorMod M (M.1 11) 16))
set_option maxHeartbeats 4000000 in
set_option maxRecDepth 100000 in
theorem c_Records_add (l : Launch) (dC : Nat → ClassId) (dI : Nat → Nat → Nat) (Z : Nat → ClassId) (A : Nat → Nat) (sz : Nat) (M : XM) (a1 : Int32) (a2 : Int64) (a3 : Int32) : Met l y_Records_add (.code y_Records_add bc_Records_add 6 none :: xw) ({ frames := 1, cells := 0, slots := 0, locals := 22 }) (va_Pc [.ref (A 13), .int a1, .long a2, .int a3] (xB (dC, dI) xcl (xty Z) sz [(A 13, xc13 Z A M), (A 14, xc14 Z A M), (A 15, xc15 Z A M), (A 16, xc16 Z A M)])) (va_Qv (fun u : ((Nat → Int32) × (Nat → Int64) × (Nat → Int32) × Int32) => u = F_Records_add M a1 a2 a3) (fun u => xE (dC, dI) xcl (xty Z) (va_A [(A 13, xc13 Z A M), (A 14, xc14 Z A M), (A 15, xc15 Z A M), (A 16, xc16 Z A M)] sz) [(A 13, xc13 Z A (ap_Records_add M u)), (A 14, xc14 Z A (ap_Records_add M u)), (A 15, xc15 Z A (ap_Records_add M u)), (A 16, xc16 Z A (ap_Records_add M u))]) (va_A [(A 13, xc13 Z A M), (A 14, xc14 Z A M), (A 15, xc15 Z A M), (A 16, xc16 Z A M)] sz)) 0 0 (va_A [(A 13, xc13 Z A M), (A 14, xc14 Z A M), (A 15, xc15 Z A M), (A 16, xc16 Z A M)] sz) := by
  refine Met.ofW (cc := bc_Records_add) (maxL := 6) (ret := none) (by decide) rfl ?_
  intro p e s m args below meth c s₁ B hml hv
  obtain ⟨rfl, hsz, hP, hK, hD0, hq⟩ := hv
  have hx := B.exec
  have hb := B.bytes
  have hr := B.returns
  have hts := atoms_spec (ws := (.code y_Records_add bc_Records_add 6 none :: xw)) B.pre
  have htt : ∀ w ∈ xw, w.before _ s = true := fun w h => hts w (List.mem_cons_of_mem _ h)
  have hown : s.vm.findClass "CentrifugeUnit$Records" = some m.cls := findClass_of_methodNamed B.named
  have hlocks := B.notSynchronized
  subst hsz
  have hD := hD0.self (sz := s.heap.size)
  generalize hAe : va_A [(A 13, xc13 Z A M), (A 14, xc14 Z A M), (A 15, xc15 Z A M), (A 16, xc16 Z A M)] s.heap.size = AA at hD ⊢
  have hA : ∀ q : Nat, s.heap.size ≤ q → AA q := fun q h => by rw [← hAe]; exact Or.inr h
  have hS : va_S AA s.heap s.heap [] := va_S.rf
  have hP : va_P (dC, dI) xcl [(A 13, .inr (4, [.ref (A 14), .ref (A 15), .ref (A 16), .int (M.1 11)])), (A 14, .inl (Z 0, 16, .inl (M.2.2.1 14))), (A 15, .inl (Z 1, 16, .inr (.inl (M.2.2.2 15)))), (A 16, .inl (Z 0, 16, .inl (M.2.2.1 16)))] s.heap := hP
  have hD : va_D AA [(A 13, .inr (4, [.ref (A 14), .ref (A 15), .ref (A 16), .int (M.1 11)])), (A 14, .inl (Z 0, 16, .inl (M.2.2.1 14))), (A 15, .inl (Z 1, 16, .inr (.inl (M.2.2.2 15)))), (A 16, .inl (Z 0, 16, .inl (M.2.2.1 16)))] := hD
  have hl := lv_entry ([.ref (A 13), .int a1, .long a2, .int a3]) (n := 6) (Nat.le_of_ble_eq_true rfl)
  rw [lg_entry_eq]
  generalize (lg_sl ([.ref (A 13), .int a1, .long a2, .int a3]) ++ List.replicate (6 - (lg_sl ([.ref (A 13), .int a1, .long a2, .int a3])).length) Slot.unset).toArray = ls at hl ⊢
  have hl : lv_has ls 6 [(0, .ref (A 13)), (1, .int a1), (2, .long a2), (4, .int a3)] := hl
  refine lv_aload_n hx hb d_Records_add_0 rfl (lv_at hl 0 rfl) ?_
  refine va_get (D := (dC, dI)) (ci := 4) (v := .int (M.1 11)) (C := "CentrifugeUnit$Records") (T := xF4) (N := 4) hx hb htt xin4 hown hK hP 0 rfl rfl 3 (by decide) (htt _ tw_150) (fun _ h9 => h9) rfl d_Records_add_1 ?_
  refine lv_bipush (v := 16) hx hb d_Records_add_4 (by decide) ?_
  have hPc := hP.sub (ws' := []) [] rfl
  have hDc := hD.sub (ws' := []) [] (by decide) rfl
  refine xk_p (va_runS (As := [.int (M.1 11), .int 16]) (rest := []) ⟨hx, hb, hml, hown, hts⟩ (c_Math_floorMod l dC dI Z A _ M (M.1 11) 16 (by decide)) (va_cwS 2 hts (xw_S _ tw_710 tw_711 tw_18 tw_712) rfl rfl rfl (by decide +kernel) ⟨Nat.le_of_ble_eq_true rfl, Nat.le_of_ble_eq_true rfl⟩) ⟨xB_blind, fun U hU hW => ⟨rfl, xB_at hPc hK hDc hq U hU hW⟩⟩ rfl rfl hl.1 rfl (lv_room (Nat.le_of_ble_eq_true rfl)) d_Records_add_6 ⟨Nat.le_of_ble_eq_true rfl, Nat.le_of_ble_eq_true rfl⟩) ?_
  refine lv_topi (fun z1 hz1 => ?_)
  refine lv_istore (lv' := [(5, .int z1), (0, .ref (A 13)), (1, .int a1), (2, .long a2), (4, .int a3)]) hx hb d_Records_add_9 hl (by decide) rfl (fun ls hl => ?_)
  refine lv_aload_n hx hb d_Records_add_11 rfl (lv_at hl 1 rfl) ?_
  refine va_get (D := (dC, dI)) (ci := 4) (v := .ref (A 14)) (C := "CentrifugeUnit$Records") (T := xF4) (N := 4) hx hb htt xin4 hown hK hP 0 rfl rfl 0 (by decide) (htt _ tw_147) (fun _ h9 => h9) rfl d_Records_add_12 ?_
  refine lv_iload hx hb d_Records_add_15 (lv_at hl 0 rfl) ?_
  refine lv_iload_n hx hb d_Records_add_17 rfl (lv_at hl 2 rfl) ?_
  refine va_iast (D := (dC, dI)) hx hb hK hP hD hS 1 0 rfl rfl (by rw [hz1]; exact xfm16 _ _) d_Records_add_18 (fun H locs hP hD hS => ?_)
  have hP : va_P (dC, dI) xcl [(A 13, .inr (4, [.ref (A 14), .ref (A 15), .ref (A 16), .int (M.1 11)])), (A 14, .inl (Z 0, 16, .inl (upd (M.2.2.1 14) (z1).toNatClampNeg a1))), (A 15, .inl (Z 1, 16, .inr (.inl (M.2.2.2 15)))), (A 16, .inl (Z 0, 16, .inl (M.2.2.1 16)))] H := hP
  have hD : va_D AA [(A 13, .inr (4, [.ref (A 14), .ref (A 15), .ref (A 16), .int (M.1 11)])), (A 14, .inl (Z 0, 16, .inl (upd (M.2.2.1 14) (z1).toNatClampNeg a1))), (A 15, .inl (Z 1, 16, .inr (.inl (M.2.2.2 15)))), (A 16, .inl (Z 0, 16, .inl (M.2.2.1 16)))] := hD
  refine lv_aload_n hx hb d_Records_add_19 rfl (lv_at hl 1 rfl) ?_
  refine va_get (D := (dC, dI)) (ci := 4) (v := .ref (A 15)) (C := "CentrifugeUnit$Records") (T := xF4) (N := 4) hx hb htt xin4 hown hK hP 0 rfl rfl 1 (by decide) (htt _ tw_148) (fun _ h9 => h9) rfl d_Records_add_20 ?_
  refine lv_iload hx hb d_Records_add_23 (lv_at hl 0 rfl) ?_
  refine lv_lload_n hx hb d_Records_add_25 rfl (lv_at hl 3 rfl) ?_
  refine va_last (D := (dC, dI)) hx hb hK hP hD hS 2 1 rfl rfl (by rw [hz1]; exact xfm16 _ _) d_Records_add_26 (fun H locs hP hD hS => ?_)
  have hP : va_P (dC, dI) xcl [(A 13, .inr (4, [.ref (A 14), .ref (A 15), .ref (A 16), .int (M.1 11)])), (A 14, .inl (Z 0, 16, .inl (upd (M.2.2.1 14) (z1).toNatClampNeg a1))), (A 15, .inl (Z 1, 16, .inr (.inl (vp_updL (M.2.2.2 15) (z1).toNatClampNeg a2)))), (A 16, .inl (Z 0, 16, .inl (M.2.2.1 16)))] H := hP
  have hD : va_D AA [(A 13, .inr (4, [.ref (A 14), .ref (A 15), .ref (A 16), .int (M.1 11)])), (A 14, .inl (Z 0, 16, .inl (upd (M.2.2.1 14) (z1).toNatClampNeg a1))), (A 15, .inl (Z 1, 16, .inr (.inl (vp_updL (M.2.2.2 15) (z1).toNatClampNeg a2)))), (A 16, .inl (Z 0, 16, .inl (M.2.2.1 16)))] := hD
  refine lv_aload_n hx hb d_Records_add_27 rfl (lv_at hl 1 rfl) ?_
  refine va_get (D := (dC, dI)) (ci := 4) (v := .ref (A 16)) (C := "CentrifugeUnit$Records") (T := xF4) (N := 4) hx hb htt xin4 hown hK hP 0 rfl rfl 2 (by decide) (htt _ tw_149) (fun _ h9 => h9) rfl d_Records_add_28 ?_
  refine lv_iload hx hb d_Records_add_31 (lv_at hl 0 rfl) ?_
  refine lv_iload hx hb d_Records_add_33 (lv_at hl 4 rfl) ?_
  refine va_iast (D := (dC, dI)) hx hb hK hP hD hS 3 0 rfl rfl (by rw [hz1]; exact xfm16 _ _) d_Records_add_35 (fun H locs hP hD hS => ?_)
  have hP : va_P (dC, dI) xcl [(A 13, .inr (4, [.ref (A 14), .ref (A 15), .ref (A 16), .int (M.1 11)])), (A 14, .inl (Z 0, 16, .inl (upd (M.2.2.1 14) (z1).toNatClampNeg a1))), (A 15, .inl (Z 1, 16, .inr (.inl (vp_updL (M.2.2.2 15) (z1).toNatClampNeg a2)))), (A 16, .inl (Z 0, 16, .inl (upd (M.2.2.1 16) (z1).toNatClampNeg a3)))] H := hP
  have hD : va_D AA [(A 13, .inr (4, [.ref (A 14), .ref (A 15), .ref (A 16), .int (M.1 11)])), (A 14, .inl (Z 0, 16, .inl (upd (M.2.2.1 14) (z1).toNatClampNeg a1))), (A 15, .inl (Z 1, 16, .inr (.inl (vp_updL (M.2.2.2 15) (z1).toNatClampNeg a2)))), (A 16, .inl (Z 0, 16, .inl (upd (M.2.2.1 16) (z1).toNatClampNeg a3)))] := hD
  refine lv_aload_n hx hb d_Records_add_36 rfl (lv_at hl 1 rfl) ?_
  refine lv_dup hx hb d_Records_add_37 rfl ?_
  refine va_get (D := (dC, dI)) (ci := 4) (v := .int (M.1 11)) (C := "CentrifugeUnit$Records") (T := xF4) (N := 4) hx hb htt xin4 hown hK hP 0 rfl rfl 3 (by decide) (htt _ tw_150) (fun _ h9 => h9) rfl d_Records_add_38 ?_
  refine lv_iconst (v := 1) hx hb d_Records_add_41 (by decide) ?_
  refine lv_iadd hx hb d_Records_add_42 ?_
  refine va_put (D := (dC, dI)) (ci := 4) (v := .int ((M.1 11) + 1)) (ty := .int) (C := "CentrifugeUnit$Records") (T := xF4) (N := 4) hx hb htt xin4 xT4 xTo4 xNm4 hown hK hP hD hS 0 rfl rfl 3 (by decide) (htt _ tw_150) (fun _ h9 => h9) rfl (by decide +kernel) rfl rfl (Nat.le_of_ble_eq_true rfl) d_Records_add_43 (fun H locs hP hD hS => ?_)
  have hP : va_P (dC, dI) xcl [(A 13, .inr (4, [.ref (A 14), .ref (A 15), .ref (A 16), .int ((M.1 11) + 1)])), (A 14, .inl (Z 0, 16, .inl (upd (M.2.2.1 14) (z1).toNatClampNeg a1))), (A 15, .inl (Z 1, 16, .inr (.inl (vp_updL (M.2.2.2 15) (z1).toNatClampNeg a2)))), (A 16, .inl (Z 0, 16, .inl (upd (M.2.2.1 16) (z1).toNatClampNeg a3)))] H := hP
  have hD : va_D AA [(A 13, .inr (4, [.ref (A 14), .ref (A 15), .ref (A 16), .int ((M.1 11) + 1)])), (A 14, .inl (Z 0, 16, .inl (upd (M.2.2.1 14) (z1).toNatClampNeg a1))), (A 15, .inl (Z 1, 16, .inr (.inl (vp_updL (M.2.2.2 15) (z1).toNatClampNeg a2)))), (A 16, .inl (Z 0, 16, .inl (upd (M.2.2.1 16) (z1).toNatClampNeg a3)))] := hD
  have hP9 := hP.sub (ws' := [(A 13, xc13 Z A (ap_Records_add M ((upd (M.2.2.1 14) (z1).toNatClampNeg a1), (vp_updL (M.2.2.2 15) (z1).toNatClampNeg a2), (upd (M.2.2.1 16) (z1).toNatClampNeg a3), ((M.1 11) + 1)))), (A 14, xc14 Z A (ap_Records_add M ((upd (M.2.2.1 14) (z1).toNatClampNeg a1), (vp_updL (M.2.2.2 15) (z1).toNatClampNeg a2), (upd (M.2.2.1 16) (z1).toNatClampNeg a3), ((M.1 11) + 1)))), (A 15, xc15 Z A (ap_Records_add M ((upd (M.2.2.1 14) (z1).toNatClampNeg a1), (vp_updL (M.2.2.2 15) (z1).toNatClampNeg a2), (upd (M.2.2.1 16) (z1).toNatClampNeg a3), ((M.1 11) + 1)))), (A 16, xc16 Z A (ap_Records_add M ((upd (M.2.2.1 14) (z1).toNatClampNeg a1), (vp_updL (M.2.2.2 15) (z1).toNatClampNeg a2), (upd (M.2.2.1 16) (z1).toNatClampNeg a3), ((M.1 11) + 1))))]) [0, 1, 2, 3] rfl
  have hD9 := hD.sub (ws' := [(A 13, xc13 Z A (ap_Records_add M ((upd (M.2.2.1 14) (z1).toNatClampNeg a1), (vp_updL (M.2.2.2 15) (z1).toNatClampNeg a2), (upd (M.2.2.1 16) (z1).toNatClampNeg a3), ((M.1 11) + 1)))), (A 14, xc14 Z A (ap_Records_add M ((upd (M.2.2.1 14) (z1).toNatClampNeg a1), (vp_updL (M.2.2.2 15) (z1).toNatClampNeg a2), (upd (M.2.2.1 16) (z1).toNatClampNeg a3), ((M.1 11) + 1)))), (A 15, xc15 Z A (ap_Records_add M ((upd (M.2.2.1 14) (z1).toNatClampNeg a1), (vp_updL (M.2.2.2 15) (z1).toNatClampNeg a2), (upd (M.2.2.1 16) (z1).toNatClampNeg a3), ((M.1 11) + 1)))), (A 16, xc16 Z A (ap_Records_add M ((upd (M.2.2.1 14) (z1).toNatClampNeg a1), (vp_updL (M.2.2.2 15) (z1).toNatClampNeg a2), (upd (M.2.2.1 16) (z1).toNatClampNeg a3), ((M.1 11) + 1))))]) [0, 1, 2, 3] (by decide) rfl
  exact W.vret hx hb hr (fun t ht hW => ⟨⟨((upd (M.2.2.1 14) (z1).toNatClampNeg a1), (vp_updL (M.2.2.2 15) (z1).toNatClampNeg a2), (upd (M.2.2.1 16) (z1).toNatClampNeg a3), ((M.1 11) + 1)), rfl, (by rw [F_Records_add, ← hz1, F_Records_add_k2]), xE_at hP9 hK hD9 ht hW⟩, hS.F ht⟩) hS.2.2 d_Records_add_46
abbrev bc_Sensors_sense : ByteArray := prog_9_method_2_code
def y_Sensors_sense : MethodName := ⟨"CentrifugeUnit$Sensors", "sense", "(LCentrifugeUnit$Model;)V"⟩
theorem d_Sensors_sense_0 : decode bc_Sensors_sense 0 = .ok (.aload_n 0, 1) := by decide +kernel
theorem d_Sensors_sense_1 : decode bc_Sensors_sense 1 = .ok (.getfield 9, 3) := by decide +kernel
theorem d_Sensors_sense_4 : decode bc_Sensors_sense 4 = .ok (.iconst (-1), 1) := by decide +kernel
theorem d_Sensors_sense_5 : decode bc_Sensors_sense 5 = .ok (.if_icmp .ne 10, 3) := by decide +kernel
theorem d_Sensors_sense_8 : decode bc_Sensors_sense 8 = .ok (.aload_n 1, 1) := by decide +kernel
theorem d_Sensors_sense_9 : decode bc_Sensors_sense 9 = .ok (.invokevirtual 16, 3) := by decide +kernel
theorem d_Sensors_sense_12 : decode bc_Sensors_sense 12 = .ok (.goto 8, 3) := by decide +kernel
theorem d_Sensors_sense_15 : decode bc_Sensors_sense 15 = .ok (.aload_n 0, 1) := by decide +kernel
theorem d_Sensors_sense_16 : decode bc_Sensors_sense 16 = .ok (.getfield 9, 3) := by decide +kernel
theorem d_Sensors_sense_19 : decode bc_Sensors_sense 19 = .ok (.i2l, 1) := by decide +kernel
theorem d_Sensors_sense_20 : decode bc_Sensors_sense 20 = .ok (.lstore_n 2, 1) := by decide +kernel
theorem d_Sensors_sense_21 : decode bc_Sensors_sense 21 = .ok (.aload_n 0, 1) := by decide +kernel
theorem d_Sensors_sense_22 : decode bc_Sensors_sense 22 = .ok (.getfield 13, 3) := by decide +kernel
theorem d_Sensors_sense_25 : decode bc_Sensors_sense 25 = .ok (.iconst (-1), 1) := by decide +kernel
theorem d_Sensors_sense_26 : decode bc_Sensors_sense 26 = .ok (.if_icmp .ne 10, 3) := by decide +kernel
theorem d_Sensors_sense_29 : decode bc_Sensors_sense 29 = .ok (.aload_n 1, 1) := by decide +kernel
theorem d_Sensors_sense_30 : decode bc_Sensors_sense 30 = .ok (.invokevirtual 22, 3) := by decide +kernel
theorem d_Sensors_sense_33 : decode bc_Sensors_sense 33 = .ok (.goto 8, 3) := by decide +kernel
theorem d_Sensors_sense_36 : decode bc_Sensors_sense 36 = .ok (.aload_n 0, 1) := by decide +kernel
theorem d_Sensors_sense_37 : decode bc_Sensors_sense 37 = .ok (.getfield 13, 3) := by decide +kernel
theorem d_Sensors_sense_40 : decode bc_Sensors_sense 40 = .ok (.i2l, 1) := by decide +kernel
theorem d_Sensors_sense_41 : decode bc_Sensors_sense 41 = .ok (.lstore 4, 2) := by decide +kernel
theorem d_Sensors_sense_43 : decode bc_Sensors_sense 43 = .ok (.aload_n 0, 1) := by decide +kernel
theorem d_Sensors_sense_44 : decode bc_Sensors_sense 44 = .ok (.lload_n 2, 1) := by decide +kernel
theorem d_Sensors_sense_45 : decode bc_Sensors_sense 45 = .ok (.lconst 0, 1) := by decide +kernel
theorem d_Sensors_sense_46 : decode bc_Sensors_sense 46 = .ok (.lcmp, 1) := by decide +kernel
theorem d_Sensors_sense_47 : decode bc_Sensors_sense 47 = .ok (.ifCond .gt 7, 3) := by decide +kernel
theorem d_Sensors_sense_50 : decode bc_Sensors_sense 50 = .ok (.iconst 0, 1) := by decide +kernel
theorem d_Sensors_sense_51 : decode bc_Sensors_sense 51 = .ok (.goto 15, 3) := by decide +kernel
theorem d_Sensors_sense_54 : decode bc_Sensors_sense 54 = .ok (.ldc2_w 25, 3) := by decide +kernel
theorem d_Sensors_sense_57 : decode bc_Sensors_sense 57 = .ok (.ldc2_w 27, 3) := by decide +kernel
theorem d_Sensors_sense_60 : decode bc_Sensors_sense 60 = .ok (.lload_n 2, 1) := by decide +kernel
theorem d_Sensors_sense_61 : decode bc_Sensors_sense 61 = .ok (.ldiv, 1) := by decide +kernel
theorem d_Sensors_sense_62 : decode bc_Sensors_sense 62 = .ok (.invokestatic 29, 3) := by decide +kernel
theorem d_Sensors_sense_65 : decode bc_Sensors_sense 65 = .ok (.l2i, 1) := by decide +kernel
theorem d_Sensors_sense_66 : decode bc_Sensors_sense 66 = .ok (.putfield 35, 3) := by decide +kernel
theorem d_Sensors_sense_69 : decode bc_Sensors_sense 69 = .ok (.aload_n 0, 1) := by decide +kernel
theorem d_Sensors_sense_70 : decode bc_Sensors_sense 70 = .ok (.ldc2_w 25, 3) := by decide +kernel
theorem d_Sensors_sense_73 : decode bc_Sensors_sense 73 = .ok (.ldc2_w 38, 3) := by decide +kernel
theorem d_Sensors_sense_76 : decode bc_Sensors_sense 76 = .ok (.lload 4, 2) := by decide +kernel
theorem d_Sensors_sense_78 : decode bc_Sensors_sense 78 = .ok (.lmul, 1) := by decide +kernel
theorem d_Sensors_sense_79 : decode bc_Sensors_sense 79 = .ok (.invokestatic 29, 3) := by decide +kernel
theorem d_Sensors_sense_82 : decode bc_Sensors_sense 82 = .ok (.l2i, 1) := by decide +kernel
theorem d_Sensors_sense_83 : decode bc_Sensors_sense 83 = .ok (.putfield 40, 3) := by decide +kernel
theorem d_Sensors_sense_86 : decode bc_Sensors_sense 86 = .ok (.aload_n 0, 1) := by decide +kernel
theorem d_Sensors_sense_87 : decode bc_Sensors_sense 87 = .ok (.aload_n 0, 1) := by decide +kernel
theorem d_Sensors_sense_88 : decode bc_Sensors_sense 88 = .ok (.getfield 35, 3) := by decide +kernel
theorem d_Sensors_sense_91 : decode bc_Sensors_sense 91 = .ok (.aload_n 0, 1) := by decide +kernel
theorem d_Sensors_sense_92 : decode bc_Sensors_sense 92 = .ok (.getfield 40, 3) := by decide +kernel
theorem d_Sensors_sense_95 : decode bc_Sensors_sense 95 = .ok (.invokestatic 43, 3) := by decide +kernel
theorem d_Sensors_sense_98 : decode bc_Sensors_sense 98 = .ok (.putfield 47, 3) := by decide +kernel
theorem d_Sensors_sense_101 : decode bc_Sensors_sense 101 = .ok (.aload_n 0, 1) := by decide +kernel
theorem d_Sensors_sense_102 : decode bc_Sensors_sense 102 = .ok (.aload_n 0, 1) := by decide +kernel
theorem d_Sensors_sense_103 : decode bc_Sensors_sense 103 = .ok (.getfield 35, 3) := by decide +kernel
theorem d_Sensors_sense_106 : decode bc_Sensors_sense 106 = .ok (.aload_n 0, 1) := by decide +kernel
theorem d_Sensors_sense_107 : decode bc_Sensors_sense 107 = .ok (.getfield 40, 3) := by decide +kernel
theorem d_Sensors_sense_110 : decode bc_Sensors_sense 110 = .ok (.invokestatic 50, 3) := by decide +kernel
theorem d_Sensors_sense_113 : decode bc_Sensors_sense 113 = .ok (.putfield 52, 3) := by decide +kernel
theorem d_Sensors_sense_116 : decode bc_Sensors_sense 116 = .ok (.return_, 1) := by decide +kernel
abbrev ap_Sensors_sense (M : XM) (u : (Int32 × Int32 × Int32 × Int32)) : XM := ((va_up (va_up (va_up (va_up M.1 4 (u.1)) 5 (u.2.1)) 6 (u.2.2.1)) 7 (u.2.2.2)), M.2)
def F_Sensors_sense_k18 (M : XM) (j1 : Int64) (j5 : Int64) (j9 : Int32) (z13 : Int64) (z15 : Int32) (z17 : Int32) : (Int32 × Int32 × Int32 × Int32) := (j9, (z13).toInt32, z15, z17)
def F_Sensors_sense_k16 (M : XM) (j1 : Int64) (j5 : Int64) (j9 : Int32) (z13 : Int64) (z15 : Int32) : (Int32 × Int32 × Int32 × Int32) := (F_Sensors_sense_k18 M j1 j5 j9 z13 z15 (if (z13).toInt32 < j9 then (z13).toInt32 else j9))
def F_Sensors_sense_k14 (M : XM) (j1 : Int64) (j5 : Int64) (j9 : Int32) (z13 : Int64) : (Int32 × Int32 × Int32 × Int32) := (F_Sensors_sense_k16 M j1 j5 j9 z13 (if j9 < (z13).toInt32 then (z13).toInt32 else j9))
def F_Sensors_sense_k12 (M : XM) (j1 : Int64) (j5 : Int64) (j9 : Int32) : (Int32 × Int32 × Int32 × Int32) := (F_Sensors_sense_k14 M j1 j5 j9 (if (10 * j5) < 100000 then (10 * j5) else 100000))
def F_Sensors_sense_k21 (M : XM) (j1 : Int64) (j5 : Int64) (z20 : Int64) : Int32 := (z20).toInt32
def J_Sensors_sense_11 (M : XM) (j1 : Int64) (j5 : Int64) : Int32 := (if 0 < (lg_cmp j1 0) then (F_Sensors_sense_k21 M j1 j5 (if (60000000 / j1) < 100000 then (60000000 / j1) else 100000)) else 0)
def F_Sensors_sense_k8 (M : XM) (j1 : Int64) (j5 : Int64) : (Int32 × Int32 × Int32 × Int32) := (F_Sensors_sense_k12 M j1 j5 (J_Sensors_sense_11 M j1 j5))
def F_Sensors_sense_k24 (M : XM) (j1 : Int64) (z23 : Int64) : Int64 := z23
def J_Sensors_sense_7 (M : XM) (j1 : Int64) : Int64 := (if (M.1 3) = (-1) then (F_Sensors_sense_k24 M j1 (F_Model_countInTick M)) else ((M.1 3)).toInt64)
def F_Sensors_sense_k4 (M : XM) (j1 : Int64) : (Int32 × Int32 × Int32 × Int32) := (F_Sensors_sense_k8 M j1 (J_Sensors_sense_7 M j1))
def F_Sensors_sense_k27 (M : XM) (z26 : Int64) : Int64 := z26
def J_Sensors_sense_3 (M : XM) : Int64 := (if (M.1 2) = (-1) then (F_Sensors_sense_k27 M (F_Model_microsecondsOfTurn M)) else ((M.1 2)).toInt64)
def F_Sensors_sense (M : XM) : (Int32 × Int32 × Int32 × Int32) := (F_Sensors_sense_k4 M (J_Sensors_sense_3 M))
set_option maxHeartbeats 4000000 in
set_option maxRecDepth 100000 in
theorem c_Sensors_sense (l : Launch) (dC : Nat → ClassId) (dI : Nat → Nat → Nat) (Z : Nat → ClassId) (A : Nat → Nat) (sz : Nat) (M : XM) : Met l y_Sensors_sense (.code y_Sensors_sense bc_Sensors_sense 6 none :: xw) ({ frames := 1, cells := 0, slots := 0, locals := 23 }) (va_Pc [.ref (A 11), .ref (A 10)] (xB (dC, dI) xcl (xty Z) sz [(A 11, xc11 Z A M), (A 10, xc10 Z A M)])) (va_Qv (fun u : (Int32 × Int32 × Int32 × Int32) => u = F_Sensors_sense M) (fun u => xE (dC, dI) xcl (xty Z) (va_A [(A 11, xc11 Z A M), (A 10, xc10 Z A M)] sz) [(A 11, xc11 Z A (ap_Sensors_sense M u)), (A 10, xc10 Z A (ap_Sensors_sense M u))]) (va_A [(A 11, xc11 Z A M), (A 10, xc10 Z A M)] sz)) 0 0 (va_A [(A 11, xc11 Z A M), (A 10, xc10 Z A M)] sz) := by
  refine Met.ofW (cc := bc_Sensors_sense) (maxL := 6) (ret := none) (by decide) rfl ?_
  intro p e s m args below meth c s₁ B hml hv
  obtain ⟨rfl, hsz, hP, hK, hD0, hq⟩ := hv
  have hx := B.exec
  have hb := B.bytes
  have hr := B.returns
  have hts := atoms_spec (ws := (.code y_Sensors_sense bc_Sensors_sense 6 none :: xw)) B.pre
  have htt : ∀ w ∈ xw, w.before _ s = true := fun w h => hts w (List.mem_cons_of_mem _ h)
  have hown : s.vm.findClass "CentrifugeUnit$Sensors" = some m.cls := findClass_of_methodNamed B.named
  have hlocks := B.notSynchronized
  subst hsz
  have hD := hD0.self (sz := s.heap.size)
  generalize hAe : va_A [(A 11, xc11 Z A M), (A 10, xc10 Z A M)] s.heap.size = AA at hD ⊢
  have hA : ∀ q : Nat, s.heap.size ≤ q → AA q := fun q h => by rw [← hAe]; exact Or.inr h
  have hS : va_S AA s.heap s.heap [] := va_S.rf
  have hP : va_P (dC, dI) xcl [(A 11, .inr (7, [.int (M.1 2), .int (M.1 3), .int (M.1 4), .int (M.1 5), .int (M.1 6), .int (M.1 7)])), (A 10, .inr (2, [.long (M.2.1 0)]))] s.heap := hP
  have hD : va_D AA [(A 11, .inr (7, [.int (M.1 2), .int (M.1 3), .int (M.1 4), .int (M.1 5), .int (M.1 6), .int (M.1 7)])), (A 10, .inr (2, [.long (M.2.1 0)]))] := hD
  have hl := lv_entry ([.ref (A 11), .ref (A 10)]) (n := 6) (Nat.le_of_ble_eq_true rfl)
  rw [lg_entry_eq]
  generalize (lg_sl ([.ref (A 11), .ref (A 10)]) ++ List.replicate (6 - (lg_sl ([.ref (A 11), .ref (A 10)])).length) Slot.unset).toArray = ls at hl ⊢
  have hl : lv_has ls 6 [(0, .ref (A 11)), (1, .ref (A 10))] := hl
  refine lv_aload_n hx hb d_Sensors_sense_0 rfl (lv_at hl 0 rfl) ?_
  refine va_get (D := (dC, dI)) (ci := 7) (v := .int (M.1 2)) (C := "CentrifugeUnit$Sensors") (T := xF7) (N := 6) hx hb htt xin7 hown hK hP 0 rfl rfl 0 (by decide) (htt _ tw_95) (fun _ h9 => h9) rfl d_Sensors_sense_1 ?_
  refine lv_iconst (v := (-1)) hx hb d_Sensors_sense_4 (by decide) ?_
  refine xj_p 6 20 (fun q9 : Int64 => [(0, .ref (A 11)), (1, .ref (A 10))]) (fun q9 : Int64 => [.long q9]) (fun q9 : Int64 => q9 = J_Sensors_sense_3 M) (fun hJ2 => ?_) (fun ls j1 hl hj1 => ?_)
  · refine lv_icmp_ne (tgt := 15) hx hb d_Sensors_sense_5 rfl (fun h25 => ?_) (fun h25 => ?_)
    · refine lv_aload_n hx hb d_Sensors_sense_15 rfl (lv_at hl 0 rfl) ?_
      refine va_get (D := (dC, dI)) (ci := 7) (v := .int (M.1 2)) (C := "CentrifugeUnit$Sensors") (T := xF7) (N := 6) hx hb htt xin7 hown hK hP 0 rfl rfl 0 (by decide) (htt _ tw_95) (fun _ h9 => h9) rfl d_Sensors_sense_16 ?_
      refine lv_i2l (v := ((M.1 2)).toInt64) hx hb d_Sensors_sense_19 rfl ?_
      exact hJ2 _ ((M.1 2)).toInt64 (lv_sub hl [0, 1] rfl) (by rw [J_Sensors_sense_3, if_neg h25])
    · refine lv_aload_n hx hb d_Sensors_sense_8 rfl (lv_at hl 1 rfl) ?_
      have hPc := hP.sub (ws' := [(A 10, xc10 Z A M)]) [1] rfl
      have hDc := hD.sub (ws' := [(A 10, xc10 Z A M)]) [1] (by decide) rfl
      refine xk_p (va_runV (As := []) (rest := []) ⟨hx, hb, hml, hown, hts⟩ (c_Model_microsecondsOfTurn l dC dI Z A _ M) (cwV 0 hts (xw_V _ tw_593 tw_594 tw_595 tw_5 tw_596) rfl rfl rfl (by decide +kernel) ⟨Nat.le_of_ble_eq_true rfl, Nat.le_of_ble_eq_true rfl⟩) ⟨xB_blind, va_recv (q0 := 1) (ci := 2) hK hP rfl rfl, fun U hU hW => ⟨rfl, xB_at hPc hK hDc hq U hU hW⟩⟩ rfl rfl hl.1 rfl (lv_room (Nat.le_of_ble_eq_true rfl)) d_Sensors_sense_9 ⟨Nat.le_of_ble_eq_true rfl, Nat.le_of_ble_eq_true rfl⟩) ?_
      refine lv_topl (fun z26 hz26 => ?_)
      refine lv_goto (tgt := 20) hx hb d_Sensors_sense_12 rfl ?_
      exact hJ2 _ z26 (lv_sub hl [0, 1] rfl) (by rw [J_Sensors_sense_3, if_pos h25, ← hz26, F_Sensors_sense_k27])
  · refine lv_lstore_n (lv' := [(2, .long j1), (0, .ref (A 11)), (1, .ref (A 10))]) hx hb d_Sensors_sense_20 rfl hl (by decide) rfl (fun ls hl => ?_)
    refine lv_aload_n hx hb d_Sensors_sense_21 rfl (lv_at hl 1 rfl) ?_
    refine va_get (D := (dC, dI)) (ci := 7) (v := .int (M.1 3)) (C := "CentrifugeUnit$Sensors") (T := xF7) (N := 6) hx hb htt xin7 hown hK hP 0 rfl rfl 1 (by decide) (htt _ tw_97) (fun _ h9 => h9) rfl d_Sensors_sense_22 ?_
    refine lv_iconst (v := (-1)) hx hb d_Sensors_sense_25 (by decide) ?_
    refine xj_p 6 41 (fun q9 : Int64 => [(2, .long j1), (0, .ref (A 11)), (1, .ref (A 10))]) (fun q9 : Int64 => [.long q9]) (fun q9 : Int64 => q9 = J_Sensors_sense_7 M j1) (fun hJ6 => ?_) (fun ls j5 hl hj5 => ?_)
    · refine lv_icmp_ne (tgt := 36) hx hb d_Sensors_sense_26 rfl (fun h22 => ?_) (fun h22 => ?_)
      · refine lv_aload_n hx hb d_Sensors_sense_36 rfl (lv_at hl 1 rfl) ?_
        refine va_get (D := (dC, dI)) (ci := 7) (v := .int (M.1 3)) (C := "CentrifugeUnit$Sensors") (T := xF7) (N := 6) hx hb htt xin7 hown hK hP 0 rfl rfl 1 (by decide) (htt _ tw_97) (fun _ h9 => h9) rfl d_Sensors_sense_37 ?_
        refine lv_i2l (v := ((M.1 3)).toInt64) hx hb d_Sensors_sense_40 rfl ?_
        exact hJ6 _ ((M.1 3)).toInt64 (lv_sub hl [0, 1, 2] rfl) (by rw [J_Sensors_sense_7, if_neg h22])
      · refine lv_aload_n hx hb d_Sensors_sense_29 rfl (lv_at hl 2 rfl) ?_
        have hPc := hP.sub (ws' := [(A 10, xc10 Z A M)]) [1] rfl
        have hDc := hD.sub (ws' := [(A 10, xc10 Z A M)]) [1] (by decide) rfl
        refine xk_p (va_runV (As := []) (rest := []) ⟨hx, hb, hml, hown, hts⟩ (c_Model_countInTick l dC dI Z A _ M) (cwV 0 hts (xw_V _ tw_599 tw_600 tw_601 tw_5 tw_602) rfl rfl rfl (by decide +kernel) ⟨Nat.le_of_ble_eq_true rfl, Nat.le_of_ble_eq_true rfl⟩) ⟨xB_blind, va_recv (q0 := 1) (ci := 2) hK hP rfl rfl, fun U hU hW => ⟨rfl, xB_at hPc hK hDc hq U hU hW⟩⟩ rfl rfl hl.1 rfl (lv_room (Nat.le_of_ble_eq_true rfl)) d_Sensors_sense_30 ⟨Nat.le_of_ble_eq_true rfl, Nat.le_of_ble_eq_true rfl⟩) ?_
        refine lv_topl (fun z23 hz23 => ?_)
        refine lv_goto (tgt := 41) hx hb d_Sensors_sense_33 rfl ?_
        exact hJ6 _ z23 (lv_sub hl [0, 1, 2] rfl) (by rw [J_Sensors_sense_7, if_pos h22, ← hz23, F_Sensors_sense_k24])
    · refine lv_lstore (lv' := [(4, .long j5), (2, .long j1), (0, .ref (A 11)), (1, .ref (A 10))]) hx hb d_Sensors_sense_41 hl (by decide) rfl (fun ls hl => ?_)
      refine lv_aload_n hx hb d_Sensors_sense_43 rfl (lv_at hl 2 rfl) ?_
      refine lv_lload_n hx hb d_Sensors_sense_44 rfl (lv_at hl 1 rfl) ?_
      refine lv_lconst (v := 0) hx hb d_Sensors_sense_45 (by decide) ?_
      refine W.lcmp hx hb d_Sensors_sense_46 ?_
      refine xj_p 6 66 (fun q9 : Int32 => [(4, .long j5), (2, .long j1), (0, .ref (A 11)), (1, .ref (A 10))]) (fun q9 : Int32 => [.int q9, .ref (A 11)]) (fun q9 : Int32 => q9 = J_Sensors_sense_11 M j1 j5) (fun hJ10 => ?_) (fun ls j9 hl hj9 => ?_)
      · refine lv_if_gt (tgt := 54) hx hb d_Sensors_sense_47 rfl (fun h19 => ?_) (fun h19 => ?_)
        · refine lv_ldc2 (v := 100000) hx hb hown (htt _ tw_604) d_Sensors_sense_54 ?_
          refine lv_ldc2 (v := 60000000) hx hb hown (htt _ tw_605) d_Sensors_sense_57 ?_
          refine lv_lload_n hx hb d_Sensors_sense_60 rfl (lv_at hl 1 rfl) ?_
          refine lv_ldiv hx hb d_Sensors_sense_61 (xgt h19) ?_
          refine va_mmin_long hx hb (hml.trans hl.1.symm) hown (htt _ tw_606) (htt _ tw_607) (htt _ tw_18) (htt _ tw_608) (Nat.le_of_ble_eq_true rfl) (Nat.le_of_ble_eq_true rfl) (Nat.le_of_ble_eq_true rfl) (Nat.le_of_ble_eq_true rfl) d_Sensors_sense_62 ?_
          refine lv_topl (fun z20 hz20 => ?_)
          refine lv_l2i (v := (z20).toInt32) hx hb d_Sensors_sense_65 rfl ?_
          exact hJ10 _ (z20).toInt32 (lv_sub hl [0, 1, 2, 3] rfl) (by rw [J_Sensors_sense_11, if_pos h19, ← hz20, F_Sensors_sense_k21])
        · refine lv_iconst (v := 0) hx hb d_Sensors_sense_50 (by decide) ?_
          refine lv_goto (tgt := 66) hx hb d_Sensors_sense_51 rfl ?_
          exact hJ10 _ 0 (lv_sub hl [0, 1, 2, 3] rfl) (by rw [J_Sensors_sense_11, if_neg h19])
      · refine va_put (D := (dC, dI)) (ci := 7) (v := .int j9) (ty := .int) (C := "CentrifugeUnit$Sensors") (T := xF7) (N := 6) hx hb htt xin7 xT7 xTo7 xNm7 hown hK hP hD hS 0 rfl rfl 2 (by decide) (htt _ tw_99) (fun _ h9 => h9) rfl (by decide +kernel) rfl rfl (Nat.le_of_ble_eq_true rfl) d_Sensors_sense_66 (fun H locs hP hD hS => ?_)
        have hP : va_P (dC, dI) xcl [(A 11, .inr (7, [.int (M.1 2), .int (M.1 3), .int j9, .int (M.1 5), .int (M.1 6), .int (M.1 7)])), (A 10, .inr (2, [.long (M.2.1 0)]))] H := hP
        have hD : va_D AA [(A 11, .inr (7, [.int (M.1 2), .int (M.1 3), .int j9, .int (M.1 5), .int (M.1 6), .int (M.1 7)])), (A 10, .inr (2, [.long (M.2.1 0)]))] := hD
        refine lv_aload_n hx hb d_Sensors_sense_69 rfl (lv_at hl 2 rfl) ?_
        refine lv_ldc2 (v := 100000) hx hb hown (htt _ tw_604) d_Sensors_sense_70 ?_
        refine lv_ldc2 (v := 10) hx hb hown (htt _ tw_609) d_Sensors_sense_73 ?_
        refine lv_lload hx hb d_Sensors_sense_76 (lv_at hl 0 rfl) ?_
        refine lv_lmul hx hb d_Sensors_sense_78 ?_
        refine va_mmin_long hx hb (hml.trans hl.1.symm) hown (htt _ tw_606) (htt _ tw_607) (htt _ tw_18) (htt _ tw_608) (Nat.le_of_ble_eq_true rfl) (Nat.le_of_ble_eq_true rfl) (Nat.le_of_ble_eq_true rfl) (Nat.le_of_ble_eq_true rfl) d_Sensors_sense_79 ?_
        refine lv_topl (fun z13 hz13 => ?_)
        refine lv_l2i (v := (z13).toInt32) hx hb d_Sensors_sense_82 rfl ?_
        refine va_put (D := (dC, dI)) (ci := 7) (v := .int (z13).toInt32) (ty := .int) (C := "CentrifugeUnit$Sensors") (T := xF7) (N := 6) hx hb htt xin7 xT7 xTo7 xNm7 hown hK hP hD hS 0 rfl rfl 3 (by decide) (htt _ tw_101) (fun _ h9 => h9) rfl (by decide +kernel) rfl rfl (Nat.le_of_ble_eq_true rfl) d_Sensors_sense_83 (fun H locs hP hD hS => ?_)
        have hP : va_P (dC, dI) xcl [(A 11, .inr (7, [.int (M.1 2), .int (M.1 3), .int j9, .int (z13).toInt32, .int (M.1 6), .int (M.1 7)])), (A 10, .inr (2, [.long (M.2.1 0)]))] H := hP
        have hD : va_D AA [(A 11, .inr (7, [.int (M.1 2), .int (M.1 3), .int j9, .int (z13).toInt32, .int (M.1 6), .int (M.1 7)])), (A 10, .inr (2, [.long (M.2.1 0)]))] := hD
        refine lv_aload_n hx hb d_Sensors_sense_86 rfl (lv_at hl 2 rfl) ?_
        refine lv_aload_n hx hb d_Sensors_sense_87 rfl (lv_at hl 2 rfl) ?_
        refine va_get (D := (dC, dI)) (ci := 7) (v := .int j9) (C := "CentrifugeUnit$Sensors") (T := xF7) (N := 6) hx hb htt xin7 hown hK hP 0 rfl rfl 2 (by decide) (htt _ tw_99) (fun _ h9 => h9) rfl d_Sensors_sense_88 ?_
        refine lv_aload_n hx hb d_Sensors_sense_91 rfl (lv_at hl 2 rfl) ?_
        refine va_get (D := (dC, dI)) (ci := 7) (v := .int (z13).toInt32) (C := "CentrifugeUnit$Sensors") (T := xF7) (N := 6) hx hb htt xin7 hown hK hP 0 rfl rfl 3 (by decide) (htt _ tw_101) (fun _ h9 => h9) rfl d_Sensors_sense_92 ?_
        refine va_mmax hx hb (hml.trans hl.1.symm) hown (htt _ tw_610) (htt _ tw_611) (htt _ tw_18) (htt _ tw_612) (Nat.le_of_ble_eq_true rfl) (Nat.le_of_ble_eq_true rfl) (Nat.le_of_ble_eq_true rfl) (Nat.le_of_ble_eq_true rfl) d_Sensors_sense_95 ?_
        refine lv_topi (fun z15 hz15 => ?_)
        refine va_put (D := (dC, dI)) (ci := 7) (v := .int z15) (ty := .int) (C := "CentrifugeUnit$Sensors") (T := xF7) (N := 6) hx hb htt xin7 xT7 xTo7 xNm7 hown hK hP hD hS 0 rfl rfl 4 (by decide) (htt _ tw_104) (fun _ h9 => h9) rfl (by decide +kernel) rfl rfl (Nat.le_of_ble_eq_true rfl) d_Sensors_sense_98 (fun H locs hP hD hS => ?_)
        have hP : va_P (dC, dI) xcl [(A 11, .inr (7, [.int (M.1 2), .int (M.1 3), .int j9, .int (z13).toInt32, .int z15, .int (M.1 7)])), (A 10, .inr (2, [.long (M.2.1 0)]))] H := hP
        have hD : va_D AA [(A 11, .inr (7, [.int (M.1 2), .int (M.1 3), .int j9, .int (z13).toInt32, .int z15, .int (M.1 7)])), (A 10, .inr (2, [.long (M.2.1 0)]))] := hD
        refine lv_aload_n hx hb d_Sensors_sense_101 rfl (lv_at hl 2 rfl) ?_
        refine lv_aload_n hx hb d_Sensors_sense_102 rfl (lv_at hl 2 rfl) ?_
        refine va_get (D := (dC, dI)) (ci := 7) (v := .int j9) (C := "CentrifugeUnit$Sensors") (T := xF7) (N := 6) hx hb htt xin7 hown hK hP 0 rfl rfl 2 (by decide) (htt _ tw_99) (fun _ h9 => h9) rfl d_Sensors_sense_103 ?_
        refine lv_aload_n hx hb d_Sensors_sense_106 rfl (lv_at hl 2 rfl) ?_
        refine va_get (D := (dC, dI)) (ci := 7) (v := .int (z13).toInt32) (C := "CentrifugeUnit$Sensors") (T := xF7) (N := 6) hx hb htt xin7 hown hK hP 0 rfl rfl 3 (by decide) (htt _ tw_101) (fun _ h9 => h9) rfl d_Sensors_sense_107 ?_
        refine va_mmin hx hb (hml.trans hl.1.symm) hown (htt _ tw_613) (htt _ tw_614) (htt _ tw_18) (htt _ tw_615) (Nat.le_of_ble_eq_true rfl) (Nat.le_of_ble_eq_true rfl) (Nat.le_of_ble_eq_true rfl) (Nat.le_of_ble_eq_true rfl) d_Sensors_sense_110 ?_
        refine lv_topi (fun z17 hz17 => ?_)
        refine va_put (D := (dC, dI)) (ci := 7) (v := .int z17) (ty := .int) (C := "CentrifugeUnit$Sensors") (T := xF7) (N := 6) hx hb htt xin7 xT7 xTo7 xNm7 hown hK hP hD hS 0 rfl rfl 5 (by decide) (htt _ tw_108) (fun _ h9 => h9) rfl (by decide +kernel) rfl rfl (Nat.le_of_ble_eq_true rfl) d_Sensors_sense_113 (fun H locs hP hD hS => ?_)
        have hP : va_P (dC, dI) xcl [(A 11, .inr (7, [.int (M.1 2), .int (M.1 3), .int j9, .int (z13).toInt32, .int z15, .int z17])), (A 10, .inr (2, [.long (M.2.1 0)]))] H := hP
        have hD : va_D AA [(A 11, .inr (7, [.int (M.1 2), .int (M.1 3), .int j9, .int (z13).toInt32, .int z15, .int z17])), (A 10, .inr (2, [.long (M.2.1 0)]))] := hD
        have hP9 := hP.sub (ws' := [(A 11, xc11 Z A (ap_Sensors_sense M (j9, (z13).toInt32, z15, z17))), (A 10, xc10 Z A (ap_Sensors_sense M (j9, (z13).toInt32, z15, z17)))]) [0, 1] rfl
        have hD9 := hD.sub (ws' := [(A 11, xc11 Z A (ap_Sensors_sense M (j9, (z13).toInt32, z15, z17))), (A 10, xc10 Z A (ap_Sensors_sense M (j9, (z13).toInt32, z15, z17)))]) [0, 1] (by decide) rfl
        exact W.vret hx hb hr (fun t ht hW => ⟨⟨(j9, (z13).toInt32, z15, z17), rfl, (by rw [F_Sensors_sense, ← hj1, F_Sensors_sense_k4, ← hj5, F_Sensors_sense_k8, ← hj9, F_Sensors_sense_k12, ← hz13, F_Sensors_sense_k14, ← hz15, F_Sensors_sense_k16, ← hz17, F_Sensors_sense_k18]), xE_at hP9 hK hD9 ht hW⟩, hS.F ht⟩) hS.2.2 d_Sensors_sense_116
abbrev bc_Rotors_allowed : ByteArray := prog_7_method_3_code
def y_Rotors_allowed : MethodName := ⟨"CentrifugeUnit$Rotors", "allowed", "(IIIII)Z"⟩
theorem d_Rotors_allowed_0 : decode bc_Rotors_allowed 0 = .ok (.iload_n 0, 1) := by decide +kernel
theorem d_Rotors_allowed_1 : decode bc_Rotors_allowed 1 = .ok (.invokestatic 38, 3) := by decide +kernel
theorem d_Rotors_allowed_4 : decode bc_Rotors_allowed 4 = .ok (.ifCond .eq 54, 3) := by decide +kernel
theorem d_Rotors_allowed_7 : decode bc_Rotors_allowed 7 = .ok (.iload_n 1, 1) := by decide +kernel
theorem d_Rotors_allowed_8 : decode bc_Rotors_allowed 8 = .ok (.iconst 0, 1) := by decide +kernel
theorem d_Rotors_allowed_9 : decode bc_Rotors_allowed 9 = .ok (.sipush 255, 3) := by decide +kernel
theorem d_Rotors_allowed_12 : decode bc_Rotors_allowed 12 = .ok (.invokestatic 34, 3) := by decide +kernel
theorem d_Rotors_allowed_15 : decode bc_Rotors_allowed 15 = .ok (.ifCond .eq 43, 3) := by decide +kernel
theorem d_Rotors_allowed_18 : decode bc_Rotors_allowed 18 = .ok (.iload_n 2, 1) := by decide +kernel
theorem d_Rotors_allowed_19 : decode bc_Rotors_allowed 19 = .ok (.bipush 10, 2) := by decide +kernel
theorem d_Rotors_allowed_21 : decode bc_Rotors_allowed 21 = .ok (.sipush 300, 3) := by decide +kernel
theorem d_Rotors_allowed_24 : decode bc_Rotors_allowed 24 = .ok (.invokestatic 34, 3) := by decide +kernel
theorem d_Rotors_allowed_27 : decode bc_Rotors_allowed 27 = .ok (.ifCond .eq 31, 3) := by decide +kernel
theorem d_Rotors_allowed_30 : decode bc_Rotors_allowed 30 = .ok (.iload_n 3, 1) := by decide +kernel
theorem d_Rotors_allowed_31 : decode bc_Rotors_allowed 31 = .ok (.bipush 100, 2) := by decide +kernel
theorem d_Rotors_allowed_33 : decode bc_Rotors_allowed 33 = .ok (.sipush 20000, 3) := by decide +kernel
theorem d_Rotors_allowed_36 : decode bc_Rotors_allowed 36 = .ok (.invokestatic 34, 3) := by decide +kernel
theorem d_Rotors_allowed_39 : decode bc_Rotors_allowed 39 = .ok (.ifCond .eq 19, 3) := by decide +kernel
theorem d_Rotors_allowed_42 : decode bc_Rotors_allowed 42 = .ok (.iload 4, 2) := by decide +kernel
theorem d_Rotors_allowed_44 : decode bc_Rotors_allowed 44 = .ok (.iconst 1, 1) := by decide +kernel
theorem d_Rotors_allowed_45 : decode bc_Rotors_allowed 45 = .ok (.sipush 1000, 3) := by decide +kernel
theorem d_Rotors_allowed_48 : decode bc_Rotors_allowed 48 = .ok (.invokestatic 34, 3) := by decide +kernel
theorem d_Rotors_allowed_51 : decode bc_Rotors_allowed 51 = .ok (.ifCond .eq 7, 3) := by decide +kernel
theorem d_Rotors_allowed_54 : decode bc_Rotors_allowed 54 = .ok (.iconst 1, 1) := by decide +kernel
theorem d_Rotors_allowed_55 : decode bc_Rotors_allowed 55 = .ok (.goto 4, 3) := by decide +kernel
theorem d_Rotors_allowed_58 : decode bc_Rotors_allowed 58 = .ok (.iconst 0, 1) := by decide +kernel
theorem d_Rotors_allowed_59 : decode bc_Rotors_allowed 59 = .ok (.ireturn, 1) := by decide +kernel
def F_Rotors_allowed_k14 (M : XM) (a1 : Int32) (a2 : Int32) (a3 : Int32) (a4 : Int32) (a5 : Int32) (z1 : Int32) (z4 : Int32) (z7 : Int32) (z10 : Int32) (z13 : Int32) : Int32 := (if z13 = 0 then 0 else 1)
def F_Rotors_allowed_k11 (M : XM) (a1 : Int32) (a2 : Int32) (a3 : Int32) (a4 : Int32) (a5 : Int32) (z1 : Int32) (z4 : Int32) (z7 : Int32) (z10 : Int32) : Int32 := (if z10 = 0 then 0 else (F_Rotors_allowed_k14 M a1 a2 a3 a4 a5 z1 z4 z7 z10 (F_U_within M a5 1 1000)))
def F_Rotors_allowed_k8 (M : XM) (a1 : Int32) (a2 : Int32) (a3 : Int32) (a4 : Int32) (a5 : Int32) (z1 : Int32) (z4 : Int32) (z7 : Int32) : Int32 := (if z7 = 0 then 0 else (F_Rotors_allowed_k11 M a1 a2 a3 a4 a5 z1 z4 z7 (F_U_within M a4 100 20000)))
def F_Rotors_allowed_k5 (M : XM) (a1 : Int32) (a2 : Int32) (a3 : Int32) (a4 : Int32) (a5 : Int32) (z1 : Int32) (z4 : Int32) : Int32 := (if z4 = 0 then 0 else (F_Rotors_allowed_k8 M a1 a2 a3 a4 a5 z1 z4 (F_U_within M a3 10 300)))
def F_Rotors_allowed_k2 (M : XM) (a1 : Int32) (a2 : Int32) (a3 : Int32) (a4 : Int32) (a5 : Int32) (z1 : Int32) : Int32 := (if z1 = 0 then 0 else (F_Rotors_allowed_k5 M a1 a2 a3 a4 a5 z1 (F_U_within M a2 0 255)))
def F_Rotors_allowed (M : XM) (a1 : Int32) (a2 : Int32) (a3 : Int32) (a4 : Int32) (a5 : Int32) : Int32 := (F_Rotors_allowed_k2 M a1 a2 a3 a4 a5 (F_Rotors_exists M a1))
theorem f01_Rotors_allowed (M : XM) (a1 : Int32) (a2 : Int32) (a3 : Int32) (a4 : Int32) (a5 : Int32) : F_Rotors_allowed M a1 a2 a3 a4 a5 = 0 ∨ F_Rotors_allowed M a1 a2 a3 a4 a5 = 1 := by
  simp only [F_Rotors_allowed_k14, F_Rotors_allowed_k11, F_Rotors_allowed_k8, F_Rotors_allowed_k5, F_Rotors_allowed_k2, F_Rotors_allowed]; repeat' split
  all_goals first | exact Or.inl rfl | exact Or.inr rfl | exact f01_Rotors_exists _ _ | exact f01_U_within _ _ _ _ | simp
set_option maxHeartbeats 4000000 in
set_option maxRecDepth 100000 in
theorem c_Rotors_allowed (l : Launch) (dC : Nat → ClassId) (dI : Nat → Nat → Nat) (Z : Nat → ClassId) (A : Nat → Nat) (sz : Nat) (M : XM) (a1 : Int32) (a2 : Int32) (a3 : Int32) (a4 : Int32) (a5 : Int32) : Met l y_Rotors_allowed (.code y_Rotors_allowed bc_Rotors_allowed 5 (some .boolean) :: xw) ({ frames := 2, cells := 0, slots := 0, locals := 42 }) (va_Pc [.int a1, .int a2, .int a3, .int a4, .int a5] (xB (dC, dI) xcl (xty Z) sz [])) (k2_QcV (.int (F_Rotors_allowed M a1 a2 a3 a4 a5))) 0 0 (fun _ => False) := by
  refine Met.ofW (cc := bc_Rotors_allowed) (maxL := 5) (ret := (some .boolean)) (by decide) rfl ?_
  intro p e s m args below meth c s₁ B hml hv
  obtain ⟨rfl, hsz, hP, hK, hD0, hq⟩ := hv
  have hx := B.exec
  have hb := B.bytes
  have hr := B.returns
  have hts := atoms_spec (ws := (.code y_Rotors_allowed bc_Rotors_allowed 5 (some .boolean) :: xw)) B.pre
  have htt : ∀ w ∈ xw, w.before _ s = true := fun w h => hts w (List.mem_cons_of_mem _ h)
  have hown : s.vm.findClass "CentrifugeUnit$Rotors" = some m.cls := findClass_of_methodNamed B.named
  have hlocks := B.notSynchronized
  subst hsz
  have hD : va_D (fun _ => True) [] := hD0
  have hP : va_P (dC, dI) xcl [] s.heap := hP
  have hl := lv_entry ([.int a1, .int a2, .int a3, .int a4, .int a5]) (n := 5) (Nat.le_of_ble_eq_true rfl)
  rw [lg_entry_eq]
  generalize (lg_sl ([.int a1, .int a2, .int a3, .int a4, .int a5]) ++ List.replicate (5 - (lg_sl ([.int a1, .int a2, .int a3, .int a4, .int a5])).length) Slot.unset).toArray = ls at hl ⊢
  have hl : lv_has ls 5 [(0, .int a1), (1, .int a2), (2, .int a3), (3, .int a4), (4, .int a5)] := hl
  refine lv_iload_n hx hb d_Rotors_allowed_0 rfl (lv_at hl 0 rfl) ?_
  have hPc := hP.sub (ws' := []) [] rfl
  have hDc := hD.sub (ws' := []) [] (by decide) rfl
  refine xk_p (va_runS (As := [.int a1]) (rest := []) ⟨hx, hb, hml, hown, hts⟩ (c_Rotors_exists l dC dI Z A _ M a1) (va_cwS 1 hts (xw_S _ tw_322 tw_323 tw_2 tw_324) rfl rfl rfl (by decide +kernel) ⟨Nat.le_of_ble_eq_true rfl, Nat.le_of_ble_eq_true rfl⟩) ⟨xB_blind, fun U hU hW => ⟨rfl, xB_at hPc hK hDc hq U hU hW⟩⟩ rfl rfl hl.1 rfl (lv_room (Nat.le_of_ble_eq_true rfl)) d_Rotors_allowed_1 ⟨Nat.le_of_ble_eq_true rfl, Nat.le_of_ble_eq_true rfl⟩) ?_
  refine lv_topi (fun z1 hz1 => ?_)
  refine lv_if_eq (tgt := 58) hx hb d_Rotors_allowed_4 rfl (fun h3 => ?_) (fun h3 => ?_)
  · refine lv_iconst (v := 0) hx hb d_Rotors_allowed_58 (by decide) ?_
    exact W.zret (ty := .boolean) hx hb hr rfl (fun t ht hW => ⟨(by rw [F_Rotors_allowed, ← hz1, F_Rotors_allowed_k2, if_pos h3]), ht⟩) (fun _ h => absurd h List.not_mem_nil) d_Rotors_allowed_59
  · refine lv_iload_n hx hb d_Rotors_allowed_7 rfl (lv_at hl 1 rfl) ?_
    refine lv_iconst (v := 0) hx hb d_Rotors_allowed_8 (by decide) ?_
    refine lv_sipush (v := 255) hx hb d_Rotors_allowed_9 (by decide) ?_
    have hPc := hP.sub (ws' := []) [] rfl
    have hDc := hD.sub (ws' := []) [] (by decide) rfl
    refine xk_p (va_runSN (As := [.int a2, .int 0, .int 255]) (rest := []) ⟨hx, hb, hml, hown, hts⟩ (c_U_within l dC dI Z A _ M a2 0 255) ⟨va_cnB 3 hts (xw_call _ tw_327) rfl rfl rfl (hq.1 ("CentrifugeUnit$Rotors", 34, y_U_within, "CentrifugeUnit") (by decide +kernel)) (htt _ tw_1) (by decide +kernel) ⟨Nat.le_of_ble_eq_true rfl, Nat.le_of_ble_eq_true rfl⟩, htt _ tw_326, trivial⟩ ⟨xB_blind, fun U hU hW => ⟨rfl, xB_at hPc hK hDc hq U hU hW⟩⟩ rfl rfl hl.1 rfl (lv_room (Nat.le_of_ble_eq_true rfl)) d_Rotors_allowed_12 ⟨Nat.le_of_ble_eq_true rfl, Nat.le_of_ble_eq_true rfl⟩) ?_
    refine lv_topi (fun z4 hz4 => ?_)
    refine lv_if_eq (tgt := 58) hx hb d_Rotors_allowed_15 rfl (fun h6 => ?_) (fun h6 => ?_)
    · refine lv_iconst (v := 0) hx hb d_Rotors_allowed_58 (by decide) ?_
      exact W.zret (ty := .boolean) hx hb hr rfl (fun t ht hW => ⟨(by rw [F_Rotors_allowed, ← hz1, F_Rotors_allowed_k2, if_neg h3, ← hz4, F_Rotors_allowed_k5, if_pos h6]), ht⟩) (fun _ h => absurd h List.not_mem_nil) d_Rotors_allowed_59
    · refine lv_iload_n hx hb d_Rotors_allowed_18 rfl (lv_at hl 2 rfl) ?_
      refine lv_bipush (v := 10) hx hb d_Rotors_allowed_19 (by decide) ?_
      refine lv_sipush (v := 300) hx hb d_Rotors_allowed_21 (by decide) ?_
      have hPc := hP.sub (ws' := []) [] rfl
      have hDc := hD.sub (ws' := []) [] (by decide) rfl
      refine xk_p (va_runSN (As := [.int a3, .int 10, .int 300]) (rest := []) ⟨hx, hb, hml, hown, hts⟩ (c_U_within l dC dI Z A _ M a3 10 300) ⟨va_cnB 3 hts (xw_call _ tw_327) rfl rfl rfl (hq.1 ("CentrifugeUnit$Rotors", 34, y_U_within, "CentrifugeUnit") (by decide +kernel)) (htt _ tw_1) (by decide +kernel) ⟨Nat.le_of_ble_eq_true rfl, Nat.le_of_ble_eq_true rfl⟩, htt _ tw_326, trivial⟩ ⟨xB_blind, fun U hU hW => ⟨rfl, xB_at hPc hK hDc hq U hU hW⟩⟩ rfl rfl hl.1 rfl (lv_room (Nat.le_of_ble_eq_true rfl)) d_Rotors_allowed_24 ⟨Nat.le_of_ble_eq_true rfl, Nat.le_of_ble_eq_true rfl⟩) ?_
      refine lv_topi (fun z7 hz7 => ?_)
      refine lv_if_eq (tgt := 58) hx hb d_Rotors_allowed_27 rfl (fun h9 => ?_) (fun h9 => ?_)
      · refine lv_iconst (v := 0) hx hb d_Rotors_allowed_58 (by decide) ?_
        exact W.zret (ty := .boolean) hx hb hr rfl (fun t ht hW => ⟨(by rw [F_Rotors_allowed, ← hz1, F_Rotors_allowed_k2, if_neg h3, ← hz4, F_Rotors_allowed_k5, if_neg h6, ← hz7, F_Rotors_allowed_k8, if_pos h9]), ht⟩) (fun _ h => absurd h List.not_mem_nil) d_Rotors_allowed_59
      · refine lv_iload_n hx hb d_Rotors_allowed_30 rfl (lv_at hl 3 rfl) ?_
        refine lv_bipush (v := 100) hx hb d_Rotors_allowed_31 (by decide) ?_
        refine lv_sipush (v := 20000) hx hb d_Rotors_allowed_33 (by decide) ?_
        have hPc := hP.sub (ws' := []) [] rfl
        have hDc := hD.sub (ws' := []) [] (by decide) rfl
        refine xk_p (va_runSN (As := [.int a4, .int 100, .int 20000]) (rest := []) ⟨hx, hb, hml, hown, hts⟩ (c_U_within l dC dI Z A _ M a4 100 20000) ⟨va_cnB 3 hts (xw_call _ tw_327) rfl rfl rfl (hq.1 ("CentrifugeUnit$Rotors", 34, y_U_within, "CentrifugeUnit") (by decide +kernel)) (htt _ tw_1) (by decide +kernel) ⟨Nat.le_of_ble_eq_true rfl, Nat.le_of_ble_eq_true rfl⟩, htt _ tw_326, trivial⟩ ⟨xB_blind, fun U hU hW => ⟨rfl, xB_at hPc hK hDc hq U hU hW⟩⟩ rfl rfl hl.1 rfl (lv_room (Nat.le_of_ble_eq_true rfl)) d_Rotors_allowed_36 ⟨Nat.le_of_ble_eq_true rfl, Nat.le_of_ble_eq_true rfl⟩) ?_
        refine lv_topi (fun z10 hz10 => ?_)
        refine lv_if_eq (tgt := 58) hx hb d_Rotors_allowed_39 rfl (fun h12 => ?_) (fun h12 => ?_)
        · refine lv_iconst (v := 0) hx hb d_Rotors_allowed_58 (by decide) ?_
          exact W.zret (ty := .boolean) hx hb hr rfl (fun t ht hW => ⟨(by rw [F_Rotors_allowed, ← hz1, F_Rotors_allowed_k2, if_neg h3, ← hz4, F_Rotors_allowed_k5, if_neg h6, ← hz7, F_Rotors_allowed_k8, if_neg h9, ← hz10, F_Rotors_allowed_k11, if_pos h12]), ht⟩) (fun _ h => absurd h List.not_mem_nil) d_Rotors_allowed_59
        · refine lv_iload hx hb d_Rotors_allowed_42 (lv_at hl 4 rfl) ?_
          refine lv_iconst (v := 1) hx hb d_Rotors_allowed_44 (by decide) ?_
          refine lv_sipush (v := 1000) hx hb d_Rotors_allowed_45 (by decide) ?_
          have hPc := hP.sub (ws' := []) [] rfl
          have hDc := hD.sub (ws' := []) [] (by decide) rfl
          refine xk_p (va_runSN (As := [.int a5, .int 1, .int 1000]) (rest := []) ⟨hx, hb, hml, hown, hts⟩ (c_U_within l dC dI Z A _ M a5 1 1000) ⟨va_cnB 3 hts (xw_call _ tw_327) rfl rfl rfl (hq.1 ("CentrifugeUnit$Rotors", 34, y_U_within, "CentrifugeUnit") (by decide +kernel)) (htt _ tw_1) (by decide +kernel) ⟨Nat.le_of_ble_eq_true rfl, Nat.le_of_ble_eq_true rfl⟩, htt _ tw_326, trivial⟩ ⟨xB_blind, fun U hU hW => ⟨rfl, xB_at hPc hK hDc hq U hU hW⟩⟩ rfl rfl hl.1 rfl (lv_room (Nat.le_of_ble_eq_true rfl)) d_Rotors_allowed_48 ⟨Nat.le_of_ble_eq_true rfl, Nat.le_of_ble_eq_true rfl⟩) ?_
          refine lv_topi (fun z13 hz13 => ?_)
          refine lv_if_eq (tgt := 58) hx hb d_Rotors_allowed_51 rfl (fun h15 => ?_) (fun h15 => ?_)
          · refine lv_iconst (v := 0) hx hb d_Rotors_allowed_58 (by decide) ?_
            exact W.zret (ty := .boolean) hx hb hr rfl (fun t ht hW => ⟨(by rw [F_Rotors_allowed, ← hz1, F_Rotors_allowed_k2, if_neg h3, ← hz4, F_Rotors_allowed_k5, if_neg h6, ← hz7, F_Rotors_allowed_k8, if_neg h9, ← hz10, F_Rotors_allowed_k11, if_neg h12, ← hz13, F_Rotors_allowed_k14, if_pos h15]), ht⟩) (fun _ h => absurd h List.not_mem_nil) d_Rotors_allowed_59
          · refine lv_iconst (v := 1) hx hb d_Rotors_allowed_54 (by decide) ?_
            refine lv_goto (tgt := 59) hx hb d_Rotors_allowed_55 rfl ?_
            exact W.zret (ty := .boolean) hx hb hr rfl (fun t ht hW => ⟨(by rw [F_Rotors_allowed, ← hz1, F_Rotors_allowed_k2, if_neg h3, ← hz4, F_Rotors_allowed_k5, if_neg h6, ← hz7, F_Rotors_allowed_k8, if_neg h9, ← hz10, F_Rotors_allowed_k11, if_neg h12, ← hz13, F_Rotors_allowed_k14, if_neg h15]), ht⟩) (fun _ h => absurd h List.not_mem_nil) d_Rotors_allowed_59
abbrev bc_Rotors_withPattern : ByteArray := prog_7_method_6_code
def y_Rotors_withPattern : MethodName := ⟨"CentrifugeUnit$Rotors", "withPattern", "(I)I"⟩
theorem d_Rotors_withPattern_0 : decode bc_Rotors_withPattern 0 = .ok (.iconst 0, 1) := by decide +kernel
theorem d_Rotors_withPattern_1 : decode bc_Rotors_withPattern 1 = .ok (.istore_n 2, 1) := by decide +kernel
theorem d_Rotors_withPattern_2 : decode bc_Rotors_withPattern 2 = .ok (.iload_n 2, 1) := by decide +kernel
theorem d_Rotors_withPattern_3 : decode bc_Rotors_withPattern 3 = .ok (.iconst 4, 1) := by decide +kernel
theorem d_Rotors_withPattern_4 : decode bc_Rotors_withPattern 4 = .ok (.if_icmp .ge 26, 3) := by decide +kernel
theorem d_Rotors_withPattern_7 : decode bc_Rotors_withPattern 7 = .ok (.iload_n 1, 1) := by decide +kernel
theorem d_Rotors_withPattern_8 : decode bc_Rotors_withPattern 8 = .ok (.iconst (-1), 1) := by decide +kernel
theorem d_Rotors_withPattern_9 : decode bc_Rotors_withPattern 9 = .ok (.if_icmp .eq 15, 3) := by decide +kernel
theorem d_Rotors_withPattern_12 : decode bc_Rotors_withPattern 12 = .ok (.aload_n 0, 1) := by decide +kernel
theorem d_Rotors_withPattern_13 : decode bc_Rotors_withPattern 13 = .ok (.getfield 11, 3) := by decide +kernel
theorem d_Rotors_withPattern_16 : decode bc_Rotors_withPattern 16 = .ok (.iload_n 2, 1) := by decide +kernel
theorem d_Rotors_withPattern_17 : decode bc_Rotors_withPattern 17 = .ok (.iaload, 1) := by decide +kernel
theorem d_Rotors_withPattern_18 : decode bc_Rotors_withPattern 18 = .ok (.iload_n 1, 1) := by decide +kernel
theorem d_Rotors_withPattern_19 : decode bc_Rotors_withPattern 19 = .ok (.if_icmp .ne 5, 3) := by decide +kernel
theorem d_Rotors_withPattern_22 : decode bc_Rotors_withPattern 22 = .ok (.iload_n 2, 1) := by decide +kernel
theorem d_Rotors_withPattern_23 : decode bc_Rotors_withPattern 23 = .ok (.ireturn, 1) := by decide +kernel
theorem d_Rotors_withPattern_24 : decode bc_Rotors_withPattern 24 = .ok (.iinc 2 1, 3) := by decide +kernel
theorem d_Rotors_withPattern_27 : decode bc_Rotors_withPattern 27 = .ok (.goto (-25), 3) := by decide +kernel
theorem d_Rotors_withPattern_30 : decode bc_Rotors_withPattern 30 = .ok (.iconst (-1), 1) := by decide +kernel
theorem d_Rotors_withPattern_31 : decode bc_Rotors_withPattern 31 = .ok (.ireturn, 1) := by decide +kernel
def F_Rotors_withPattern (M : XM) (a1 : Int32) : Int32 := (if a1 = (-1) then (-1) else (if ((M.2.2.1 2) 0) = a1 then 0 else (if ((M.2.2.1 2) 1) = a1 then 1 else (if ((M.2.2.1 2) 2) = a1 then 2 else (if ((M.2.2.1 2) 3) = a1 then 3 else (-1))))))
set_option maxHeartbeats 4000000 in
set_option maxRecDepth 100000 in
theorem c_Rotors_withPattern (l : Launch) (dC : Nat → ClassId) (dI : Nat → Nat → Nat) (Z : Nat → ClassId) (A : Nat → Nat) (sz : Nat) (M : XM) (a1 : Int32) : Met l y_Rotors_withPattern (.code y_Rotors_withPattern bc_Rotors_withPattern 3 (some .int) :: xw) ({ frames := 0, cells := 0, slots := 0, locals := 0 }) (va_Pc [.ref (A 1), .int a1] (xB (dC, dI) xcl (xty Z) sz [(A 1, xc1 Z A M), (A 2, xc2 Z A M)])) (k2_QcV (.int (F_Rotors_withPattern M a1))) 0 0 (fun _ => False) := by
  refine Met.ofW (cc := bc_Rotors_withPattern) (maxL := 3) (ret := (some .int)) (by decide) rfl ?_
  intro p e s m args below meth c s₁ B hml hv
  obtain ⟨rfl, hsz, hP, hK, hD0, hq⟩ := hv
  have hx := B.exec
  have hb := B.bytes
  have hr := B.returns
  have hts := atoms_spec (ws := (.code y_Rotors_withPattern bc_Rotors_withPattern 3 (some .int) :: xw)) B.pre
  have htt : ∀ w ∈ xw, w.before _ s = true := fun w h => hts w (List.mem_cons_of_mem _ h)
  have hown : s.vm.findClass "CentrifugeUnit$Rotors" = some m.cls := findClass_of_methodNamed B.named
  have hlocks := B.notSynchronized
  subst hsz
  have hD : va_D (fun _ => True) [(A 1, .inr (5, [.ref (A 2), .ref (A 3), .ref (A 4), .ref (A 5), .int (M.1 0)])), (A 2, .inl (Z 0, 4, .inl (M.2.2.1 2)))] := hD0
  have hP : va_P (dC, dI) xcl [(A 1, .inr (5, [.ref (A 2), .ref (A 3), .ref (A 4), .ref (A 5), .int (M.1 0)])), (A 2, .inl (Z 0, 4, .inl (M.2.2.1 2)))] s.heap := hP
  have hl := lv_entry ([.ref (A 1), .int a1]) (n := 3) (Nat.le_of_ble_eq_true rfl)
  rw [lg_entry_eq]
  generalize (lg_sl ([.ref (A 1), .int a1]) ++ List.replicate (3 - (lg_sl ([.ref (A 1), .int a1])).length) Slot.unset).toArray = ls at hl ⊢
  have hl : lv_has ls 3 [(0, .ref (A 1)), (1, .int a1)] := hl
  refine lv_iconst (v := 0) hx hb d_Rotors_withPattern_0 (by decide) ?_
  refine lv_istore_n (lv' := [(2, .int 0), (0, .ref (A 1)), (1, .int a1)]) hx hb d_Rotors_withPattern_1 rfl hl (by decide) rfl (fun ls hl => ?_)
  refine lv_iload_n hx hb d_Rotors_withPattern_2 rfl (lv_at hl 0 rfl) ?_
  refine lv_iconst (v := 4) hx hb d_Rotors_withPattern_3 (by decide) ?_
  refine lv_icmp_ge (tgt := 30) hx hb d_Rotors_withPattern_4 rfl (fun h => absurd h (by decide)) (fun _ => ?_)
  refine lv_iload_n hx hb d_Rotors_withPattern_7 rfl (lv_at hl 2 rfl) ?_
  refine lv_iconst (v := (-1)) hx hb d_Rotors_withPattern_8 (by decide) ?_
  refine lv_icmp_eq (tgt := 24) hx hb d_Rotors_withPattern_9 rfl (fun h1 => ?_) (fun h1 => ?_)
  · refine lv_iinc (k := 0) (v := 1) (lv' := [(2, .int 1), (0, .ref (A 1)), (1, .int a1)]) hx hb d_Rotors_withPattern_24 hl rfl (by decide) (by decide) rfl (fun ls hl => ?_)
    refine lv_goto (tgt := 2) hx hb d_Rotors_withPattern_27 rfl ?_
    refine lv_iload_n hx hb d_Rotors_withPattern_2 rfl (lv_at hl 0 rfl) ?_
    refine lv_iconst (v := 4) hx hb d_Rotors_withPattern_3 (by decide) ?_
    refine lv_icmp_ge (tgt := 30) hx hb d_Rotors_withPattern_4 rfl (fun h => absurd h (by decide)) (fun _ => ?_)
    refine lv_iload_n hx hb d_Rotors_withPattern_7 rfl (lv_at hl 2 rfl) ?_
    refine lv_iconst (v := (-1)) hx hb d_Rotors_withPattern_8 (by decide) ?_
    refine lv_icmp_eq (tgt := 24) hx hb d_Rotors_withPattern_9 rfl (fun _ => ?_) (fun h => absurd h1 h)
    refine lv_iinc (k := 0) (v := 2) (lv' := [(2, .int 2), (0, .ref (A 1)), (1, .int a1)]) hx hb d_Rotors_withPattern_24 hl rfl (by decide) (by decide) rfl (fun ls hl => ?_)
    refine lv_goto (tgt := 2) hx hb d_Rotors_withPattern_27 rfl ?_
    refine lv_iload_n hx hb d_Rotors_withPattern_2 rfl (lv_at hl 0 rfl) ?_
    refine lv_iconst (v := 4) hx hb d_Rotors_withPattern_3 (by decide) ?_
    refine lv_icmp_ge (tgt := 30) hx hb d_Rotors_withPattern_4 rfl (fun h => absurd h (by decide)) (fun _ => ?_)
    refine lv_iload_n hx hb d_Rotors_withPattern_7 rfl (lv_at hl 2 rfl) ?_
    refine lv_iconst (v := (-1)) hx hb d_Rotors_withPattern_8 (by decide) ?_
    refine lv_icmp_eq (tgt := 24) hx hb d_Rotors_withPattern_9 rfl (fun _ => ?_) (fun h => absurd h1 h)
    refine lv_iinc (k := 0) (v := 3) (lv' := [(2, .int 3), (0, .ref (A 1)), (1, .int a1)]) hx hb d_Rotors_withPattern_24 hl rfl (by decide) (by decide) rfl (fun ls hl => ?_)
    refine lv_goto (tgt := 2) hx hb d_Rotors_withPattern_27 rfl ?_
    refine lv_iload_n hx hb d_Rotors_withPattern_2 rfl (lv_at hl 0 rfl) ?_
    refine lv_iconst (v := 4) hx hb d_Rotors_withPattern_3 (by decide) ?_
    refine lv_icmp_ge (tgt := 30) hx hb d_Rotors_withPattern_4 rfl (fun h => absurd h (by decide)) (fun _ => ?_)
    refine lv_iload_n hx hb d_Rotors_withPattern_7 rfl (lv_at hl 2 rfl) ?_
    refine lv_iconst (v := (-1)) hx hb d_Rotors_withPattern_8 (by decide) ?_
    refine lv_icmp_eq (tgt := 24) hx hb d_Rotors_withPattern_9 rfl (fun _ => ?_) (fun h => absurd h1 h)
    refine lv_iinc (k := 0) (v := 4) (lv' := [(2, .int 4), (0, .ref (A 1)), (1, .int a1)]) hx hb d_Rotors_withPattern_24 hl rfl (by decide) (by decide) rfl (fun ls hl => ?_)
    refine lv_goto (tgt := 2) hx hb d_Rotors_withPattern_27 rfl ?_
    refine lv_iload_n hx hb d_Rotors_withPattern_2 rfl (lv_at hl 0 rfl) ?_
    refine lv_iconst (v := 4) hx hb d_Rotors_withPattern_3 (by decide) ?_
    refine lv_icmp_ge (tgt := 30) hx hb d_Rotors_withPattern_4 rfl (fun _ => ?_) (fun h => absurd h (by decide))
    refine lv_iconst (v := (-1)) hx hb d_Rotors_withPattern_30 (by decide) ?_
    exact W.iret hx hb hr (fun t ht hW => ⟨(by rw [F_Rotors_withPattern, if_pos h1]), ht⟩) (fun _ h => absurd h List.not_mem_nil) d_Rotors_withPattern_31
  · refine lv_aload_n hx hb d_Rotors_withPattern_12 rfl (lv_at hl 1 rfl) ?_
    refine va_get (D := (dC, dI)) (ci := 5) (v := .ref (A 2)) (C := "CentrifugeUnit$Rotors") (T := xF5) (N := 5) hx hb htt xin5 hown hK hP 0 rfl rfl 0 (by decide) (htt _ tw_37) (fun _ h9 => h9) rfl d_Rotors_withPattern_13 ?_
    refine lv_iload_n hx hb d_Rotors_withPattern_16 rfl (lv_at hl 0 rfl) ?_
    refine va_iald (D := (dC, dI)) hx hb hK hP 1 0 rfl rfl (by unfold vp_in; decide) d_Rotors_withPattern_17 ?_
    refine W.eq (g2 := F0 m 18 ls [.int ((M.2.2.1 2) 0)]) rfl ?_
    refine lv_iload_n hx hb d_Rotors_withPattern_18 rfl (lv_at hl 2 rfl) ?_
    refine lv_icmp_ne (tgt := 24) hx hb d_Rotors_withPattern_19 rfl (fun h2 => ?_) (fun h2 => ?_)
    · refine lv_iinc (k := 0) (v := 1) (lv' := [(2, .int 1), (0, .ref (A 1)), (1, .int a1)]) hx hb d_Rotors_withPattern_24 hl rfl (by decide) (by decide) rfl (fun ls hl => ?_)
      refine lv_goto (tgt := 2) hx hb d_Rotors_withPattern_27 rfl ?_
      refine lv_iload_n hx hb d_Rotors_withPattern_2 rfl (lv_at hl 0 rfl) ?_
      refine lv_iconst (v := 4) hx hb d_Rotors_withPattern_3 (by decide) ?_
      refine lv_icmp_ge (tgt := 30) hx hb d_Rotors_withPattern_4 rfl (fun h => absurd h (by decide)) (fun _ => ?_)
      refine lv_iload_n hx hb d_Rotors_withPattern_7 rfl (lv_at hl 2 rfl) ?_
      refine lv_iconst (v := (-1)) hx hb d_Rotors_withPattern_8 (by decide) ?_
      refine lv_icmp_eq (tgt := 24) hx hb d_Rotors_withPattern_9 rfl (fun h => absurd h h1) (fun _ => ?_)
      refine lv_aload_n hx hb d_Rotors_withPattern_12 rfl (lv_at hl 1 rfl) ?_
      refine va_get (D := (dC, dI)) (ci := 5) (v := .ref (A 2)) (C := "CentrifugeUnit$Rotors") (T := xF5) (N := 5) hx hb htt xin5 hown hK hP 0 rfl rfl 0 (by decide) (htt _ tw_37) (fun _ h9 => h9) rfl d_Rotors_withPattern_13 ?_
      refine lv_iload_n hx hb d_Rotors_withPattern_16 rfl (lv_at hl 0 rfl) ?_
      refine va_iald (D := (dC, dI)) hx hb hK hP 1 0 rfl rfl (by unfold vp_in; decide) d_Rotors_withPattern_17 ?_
      refine W.eq (g2 := F0 m 18 ls [.int ((M.2.2.1 2) 1)]) rfl ?_
      refine lv_iload_n hx hb d_Rotors_withPattern_18 rfl (lv_at hl 2 rfl) ?_
      refine lv_icmp_ne (tgt := 24) hx hb d_Rotors_withPattern_19 rfl (fun h3 => ?_) (fun h3 => ?_)
      · refine lv_iinc (k := 0) (v := 2) (lv' := [(2, .int 2), (0, .ref (A 1)), (1, .int a1)]) hx hb d_Rotors_withPattern_24 hl rfl (by decide) (by decide) rfl (fun ls hl => ?_)
        refine lv_goto (tgt := 2) hx hb d_Rotors_withPattern_27 rfl ?_
        refine lv_iload_n hx hb d_Rotors_withPattern_2 rfl (lv_at hl 0 rfl) ?_
        refine lv_iconst (v := 4) hx hb d_Rotors_withPattern_3 (by decide) ?_
        refine lv_icmp_ge (tgt := 30) hx hb d_Rotors_withPattern_4 rfl (fun h => absurd h (by decide)) (fun _ => ?_)
        refine lv_iload_n hx hb d_Rotors_withPattern_7 rfl (lv_at hl 2 rfl) ?_
        refine lv_iconst (v := (-1)) hx hb d_Rotors_withPattern_8 (by decide) ?_
        refine lv_icmp_eq (tgt := 24) hx hb d_Rotors_withPattern_9 rfl (fun h => absurd h h1) (fun _ => ?_)
        refine lv_aload_n hx hb d_Rotors_withPattern_12 rfl (lv_at hl 1 rfl) ?_
        refine va_get (D := (dC, dI)) (ci := 5) (v := .ref (A 2)) (C := "CentrifugeUnit$Rotors") (T := xF5) (N := 5) hx hb htt xin5 hown hK hP 0 rfl rfl 0 (by decide) (htt _ tw_37) (fun _ h9 => h9) rfl d_Rotors_withPattern_13 ?_
        refine lv_iload_n hx hb d_Rotors_withPattern_16 rfl (lv_at hl 0 rfl) ?_
        refine va_iald (D := (dC, dI)) hx hb hK hP 1 0 rfl rfl (by unfold vp_in; decide) d_Rotors_withPattern_17 ?_
        refine W.eq (g2 := F0 m 18 ls [.int ((M.2.2.1 2) 2)]) rfl ?_
        refine lv_iload_n hx hb d_Rotors_withPattern_18 rfl (lv_at hl 2 rfl) ?_
        refine lv_icmp_ne (tgt := 24) hx hb d_Rotors_withPattern_19 rfl (fun h4 => ?_) (fun h4 => ?_)
        · refine lv_iinc (k := 0) (v := 3) (lv' := [(2, .int 3), (0, .ref (A 1)), (1, .int a1)]) hx hb d_Rotors_withPattern_24 hl rfl (by decide) (by decide) rfl (fun ls hl => ?_)
          refine lv_goto (tgt := 2) hx hb d_Rotors_withPattern_27 rfl ?_
          refine lv_iload_n hx hb d_Rotors_withPattern_2 rfl (lv_at hl 0 rfl) ?_
          refine lv_iconst (v := 4) hx hb d_Rotors_withPattern_3 (by decide) ?_
          refine lv_icmp_ge (tgt := 30) hx hb d_Rotors_withPattern_4 rfl (fun h => absurd h (by decide)) (fun _ => ?_)
          refine lv_iload_n hx hb d_Rotors_withPattern_7 rfl (lv_at hl 2 rfl) ?_
          refine lv_iconst (v := (-1)) hx hb d_Rotors_withPattern_8 (by decide) ?_
          refine lv_icmp_eq (tgt := 24) hx hb d_Rotors_withPattern_9 rfl (fun h => absurd h h1) (fun _ => ?_)
          refine lv_aload_n hx hb d_Rotors_withPattern_12 rfl (lv_at hl 1 rfl) ?_
          refine va_get (D := (dC, dI)) (ci := 5) (v := .ref (A 2)) (C := "CentrifugeUnit$Rotors") (T := xF5) (N := 5) hx hb htt xin5 hown hK hP 0 rfl rfl 0 (by decide) (htt _ tw_37) (fun _ h9 => h9) rfl d_Rotors_withPattern_13 ?_
          refine lv_iload_n hx hb d_Rotors_withPattern_16 rfl (lv_at hl 0 rfl) ?_
          refine va_iald (D := (dC, dI)) hx hb hK hP 1 0 rfl rfl (by unfold vp_in; decide) d_Rotors_withPattern_17 ?_
          refine W.eq (g2 := F0 m 18 ls [.int ((M.2.2.1 2) 3)]) rfl ?_
          refine lv_iload_n hx hb d_Rotors_withPattern_18 rfl (lv_at hl 2 rfl) ?_
          refine lv_icmp_ne (tgt := 24) hx hb d_Rotors_withPattern_19 rfl (fun h5 => ?_) (fun h5 => ?_)
          · refine lv_iinc (k := 0) (v := 4) (lv' := [(2, .int 4), (0, .ref (A 1)), (1, .int a1)]) hx hb d_Rotors_withPattern_24 hl rfl (by decide) (by decide) rfl (fun ls hl => ?_)
            refine lv_goto (tgt := 2) hx hb d_Rotors_withPattern_27 rfl ?_
            refine lv_iload_n hx hb d_Rotors_withPattern_2 rfl (lv_at hl 0 rfl) ?_
            refine lv_iconst (v := 4) hx hb d_Rotors_withPattern_3 (by decide) ?_
            refine lv_icmp_ge (tgt := 30) hx hb d_Rotors_withPattern_4 rfl (fun _ => ?_) (fun h => absurd h (by decide))
            refine lv_iconst (v := (-1)) hx hb d_Rotors_withPattern_30 (by decide) ?_
            exact W.iret hx hb hr (fun t ht hW => ⟨(by rw [F_Rotors_withPattern, if_neg h1, if_neg h2, if_neg h3, if_neg h4, if_neg h5]), ht⟩) (fun _ h => absurd h List.not_mem_nil) d_Rotors_withPattern_31
          · refine lv_iload_n hx hb d_Rotors_withPattern_22 rfl (lv_at hl 0 rfl) ?_
            exact W.iret hx hb hr (fun t ht hW => ⟨(by rw [F_Rotors_withPattern, if_neg h1, if_neg h2, if_neg h3, if_neg h4, if_pos h5]), ht⟩) (fun _ h => absurd h List.not_mem_nil) d_Rotors_withPattern_23
        · refine lv_iload_n hx hb d_Rotors_withPattern_22 rfl (lv_at hl 0 rfl) ?_
          exact W.iret hx hb hr (fun t ht hW => ⟨(by rw [F_Rotors_withPattern, if_neg h1, if_neg h2, if_neg h3, if_pos h4]), ht⟩) (fun _ h => absurd h List.not_mem_nil) d_Rotors_withPattern_23
      · refine lv_iload_n hx hb d_Rotors_withPattern_22 rfl (lv_at hl 0 rfl) ?_
        exact W.iret hx hb hr (fun t ht hW => ⟨(by rw [F_Rotors_withPattern, if_neg h1, if_neg h2, if_pos h3]), ht⟩) (fun _ h => absurd h List.not_mem_nil) d_Rotors_withPattern_23
    · refine lv_iload_n hx hb d_Rotors_withPattern_22 rfl (lv_at hl 0 rfl) ?_
      exact W.iret hx hb hr (fun t ht hW => ⟨(by rw [F_Rotors_withPattern, if_neg h1, if_pos h2]), ht⟩) (fun _ h => absurd h List.not_mem_nil) d_Rotors_withPattern_23
abbrev bc_Rotors_anotherHas : ByteArray := prog_7_method_4_code
def y_Rotors_anotherHas : MethodName := ⟨"CentrifugeUnit$Rotors", "anotherHas", "(II)Z"⟩
theorem d_Rotors_anotherHas_0 : decode bc_Rotors_anotherHas 0 = .ok (.aload_n 0, 1) := by decide +kernel
theorem d_Rotors_anotherHas_1 : decode bc_Rotors_anotherHas 1 = .ok (.iload_n 2, 1) := by decide +kernel
theorem d_Rotors_anotherHas_2 : decode bc_Rotors_anotherHas 2 = .ok (.invokevirtual 42, 3) := by decide +kernel
theorem d_Rotors_anotherHas_5 : decode bc_Rotors_anotherHas 5 = .ok (.istore_n 3, 1) := by decide +kernel
theorem d_Rotors_anotherHas_6 : decode bc_Rotors_anotherHas 6 = .ok (.iload_n 3, 1) := by decide +kernel
theorem d_Rotors_anotherHas_7 : decode bc_Rotors_anotherHas 7 = .ok (.iconst (-1), 1) := by decide +kernel
theorem d_Rotors_anotherHas_8 : decode bc_Rotors_anotherHas 8 = .ok (.if_icmp .eq 12, 3) := by decide +kernel
theorem d_Rotors_anotherHas_11 : decode bc_Rotors_anotherHas 11 = .ok (.iload_n 3, 1) := by decide +kernel
theorem d_Rotors_anotherHas_12 : decode bc_Rotors_anotherHas 12 = .ok (.iload_n 1, 1) := by decide +kernel
theorem d_Rotors_anotherHas_13 : decode bc_Rotors_anotherHas 13 = .ok (.if_icmp .eq 7, 3) := by decide +kernel
theorem d_Rotors_anotherHas_16 : decode bc_Rotors_anotherHas 16 = .ok (.iconst 1, 1) := by decide +kernel
theorem d_Rotors_anotherHas_17 : decode bc_Rotors_anotherHas 17 = .ok (.goto 4, 3) := by decide +kernel
theorem d_Rotors_anotherHas_20 : decode bc_Rotors_anotherHas 20 = .ok (.iconst 0, 1) := by decide +kernel
theorem d_Rotors_anotherHas_21 : decode bc_Rotors_anotherHas 21 = .ok (.ireturn, 1) := by decide +kernel
def F_Rotors_anotherHas_k2 (M : XM) (a1 : Int32) (a2 : Int32) (z1 : Int32) : Int32 := (if z1 = (-1) then 0 else (if z1 = a1 then 0 else 1))
def F_Rotors_anotherHas (M : XM) (a1 : Int32) (a2 : Int32) : Int32 := (F_Rotors_anotherHas_k2 M a1 a2 (F_Rotors_withPattern M a2))
theorem f01_Rotors_anotherHas (M : XM) (a1 : Int32) (a2 : Int32) : F_Rotors_anotherHas M a1 a2 = 0 ∨ F_Rotors_anotherHas M a1 a2 = 1 := by
  simp only [F_Rotors_anotherHas_k2, F_Rotors_anotherHas]; repeat' split
  all_goals first | exact Or.inl rfl | exact Or.inr rfl | simp
set_option maxHeartbeats 4000000 in
set_option maxRecDepth 100000 in
theorem c_Rotors_anotherHas (l : Launch) (dC : Nat → ClassId) (dI : Nat → Nat → Nat) (Z : Nat → ClassId) (A : Nat → Nat) (sz : Nat) (M : XM) (a1 : Int32) (a2 : Int32) : Met l y_Rotors_anotherHas (.code y_Rotors_anotherHas bc_Rotors_anotherHas 4 (some .boolean) :: xw) ({ frames := 1, cells := 0, slots := 0, locals := 22 }) (va_Pc [.ref (A 1), .int a1, .int a2] (xB (dC, dI) xcl (xty Z) sz [(A 1, xc1 Z A M), (A 2, xc2 Z A M)])) (k2_QcV (.int (F_Rotors_anotherHas M a1 a2))) 0 0 (fun _ => False) := by
  refine Met.ofW (cc := bc_Rotors_anotherHas) (maxL := 4) (ret := (some .boolean)) (by decide) rfl ?_
  intro p e s m args below meth c s₁ B hml hv
  obtain ⟨rfl, hsz, hP, hK, hD0, hq⟩ := hv
  have hx := B.exec
  have hb := B.bytes
  have hr := B.returns
  have hts := atoms_spec (ws := (.code y_Rotors_anotherHas bc_Rotors_anotherHas 4 (some .boolean) :: xw)) B.pre
  have htt : ∀ w ∈ xw, w.before _ s = true := fun w h => hts w (List.mem_cons_of_mem _ h)
  have hown : s.vm.findClass "CentrifugeUnit$Rotors" = some m.cls := findClass_of_methodNamed B.named
  have hlocks := B.notSynchronized
  subst hsz
  have hD : va_D (fun _ => True) [(A 1, .inr (5, [.ref (A 2), .ref (A 3), .ref (A 4), .ref (A 5), .int (M.1 0)])), (A 2, .inl (Z 0, 4, .inl (M.2.2.1 2)))] := hD0
  have hP : va_P (dC, dI) xcl [(A 1, .inr (5, [.ref (A 2), .ref (A 3), .ref (A 4), .ref (A 5), .int (M.1 0)])), (A 2, .inl (Z 0, 4, .inl (M.2.2.1 2)))] s.heap := hP
  have hl := lv_entry ([.ref (A 1), .int a1, .int a2]) (n := 4) (Nat.le_of_ble_eq_true rfl)
  rw [lg_entry_eq]
  generalize (lg_sl ([.ref (A 1), .int a1, .int a2]) ++ List.replicate (4 - (lg_sl ([.ref (A 1), .int a1, .int a2])).length) Slot.unset).toArray = ls at hl ⊢
  have hl : lv_has ls 4 [(0, .ref (A 1)), (1, .int a1), (2, .int a2)] := hl
  refine lv_aload_n hx hb d_Rotors_anotherHas_0 rfl (lv_at hl 0 rfl) ?_
  refine lv_iload_n hx hb d_Rotors_anotherHas_1 rfl (lv_at hl 2 rfl) ?_
  have hPc := hP.sub (ws' := [(A 1, xc1 Z A M), (A 2, xc2 Z A M)]) [0, 1] rfl
  have hDc := hD.sub (ws' := [(A 1, xc1 Z A M), (A 2, xc2 Z A M)]) [0, 1] (by decide) rfl
  refine xk_p (va_runV (As := [.int a2]) (rest := []) ⟨hx, hb, hml, hown, hts⟩ (c_Rotors_withPattern l dC dI Z A _ M a2) (cwV 1 hts (xw_V _ tw_349 tw_350 tw_351 tw_2 tw_352) rfl rfl rfl (by decide +kernel) ⟨Nat.le_of_ble_eq_true rfl, Nat.le_of_ble_eq_true rfl⟩) ⟨xB_blind, va_recv (q0 := 0) (ci := 5) hK hP rfl rfl, fun U hU hW => ⟨rfl, xB_at hPc hK hDc hq U hU hW⟩⟩ rfl rfl hl.1 rfl (lv_room (Nat.le_of_ble_eq_true rfl)) d_Rotors_anotherHas_2 ⟨Nat.le_of_ble_eq_true rfl, Nat.le_of_ble_eq_true rfl⟩) ?_
  refine lv_topi (fun z1 hz1 => ?_)
  refine lv_istore_n (lv' := [(3, .int z1), (0, .ref (A 1)), (1, .int a1), (2, .int a2)]) hx hb d_Rotors_anotherHas_5 rfl hl (by decide) rfl (fun ls hl => ?_)
  refine lv_iload_n hx hb d_Rotors_anotherHas_6 rfl (lv_at hl 0 rfl) ?_
  refine lv_iconst (v := (-1)) hx hb d_Rotors_anotherHas_7 (by decide) ?_
  refine lv_icmp_eq (tgt := 20) hx hb d_Rotors_anotherHas_8 rfl (fun h3 => ?_) (fun h3 => ?_)
  · refine lv_iconst (v := 0) hx hb d_Rotors_anotherHas_20 (by decide) ?_
    exact W.zret (ty := .boolean) hx hb hr rfl (fun t ht hW => ⟨(by rw [F_Rotors_anotherHas, ← hz1, F_Rotors_anotherHas_k2, if_pos h3]), ht⟩) (fun _ h => absurd h List.not_mem_nil) d_Rotors_anotherHas_21
  · refine lv_iload_n hx hb d_Rotors_anotherHas_11 rfl (lv_at hl 0 rfl) ?_
    refine lv_iload_n hx hb d_Rotors_anotherHas_12 rfl (lv_at hl 2 rfl) ?_
    refine lv_icmp_eq (tgt := 20) hx hb d_Rotors_anotherHas_13 rfl (fun h4 => ?_) (fun h4 => ?_)
    · refine lv_iconst (v := 0) hx hb d_Rotors_anotherHas_20 (by decide) ?_
      exact W.zret (ty := .boolean) hx hb hr rfl (fun t ht hW => ⟨(by rw [F_Rotors_anotherHas, ← hz1, F_Rotors_anotherHas_k2, if_neg h3, if_pos h4]), ht⟩) (fun _ h => absurd h List.not_mem_nil) d_Rotors_anotherHas_21
    · refine lv_iconst (v := 1) hx hb d_Rotors_anotherHas_16 (by decide) ?_
      refine lv_goto (tgt := 21) hx hb d_Rotors_anotherHas_17 rfl ?_
      exact W.zret (ty := .boolean) hx hb hr rfl (fun t ht hW => ⟨(by rw [F_Rotors_anotherHas, ← hz1, F_Rotors_anotherHas_k2, if_neg h3, if_neg h4]), ht⟩) (fun _ h => absurd h List.not_mem_nil) d_Rotors_anotherHas_21
abbrev bc_Rotors_keep : ByteArray := prog_7_method_5_code
def y_Rotors_keep : MethodName := ⟨"CentrifugeUnit$Rotors", "keep", "(IIIII)V"⟩
theorem d_Rotors_keep_0 : decode bc_Rotors_keep 0 = .ok (.aload_n 0, 1) := by decide +kernel
theorem d_Rotors_keep_1 : decode bc_Rotors_keep 1 = .ok (.getfield 11, 3) := by decide +kernel
theorem d_Rotors_keep_4 : decode bc_Rotors_keep 4 = .ok (.iload_n 1, 1) := by decide +kernel
theorem d_Rotors_keep_5 : decode bc_Rotors_keep 5 = .ok (.iload_n 2, 1) := by decide +kernel
theorem d_Rotors_keep_6 : decode bc_Rotors_keep 6 = .ok (.iastore, 1) := by decide +kernel
theorem d_Rotors_keep_7 : decode bc_Rotors_keep 7 = .ok (.aload_n 0, 1) := by decide +kernel
theorem d_Rotors_keep_8 : decode bc_Rotors_keep 8 = .ok (.getfield 15, 3) := by decide +kernel
theorem d_Rotors_keep_11 : decode bc_Rotors_keep 11 = .ok (.iload_n 1, 1) := by decide +kernel
theorem d_Rotors_keep_12 : decode bc_Rotors_keep 12 = .ok (.iload_n 3, 1) := by decide +kernel
theorem d_Rotors_keep_13 : decode bc_Rotors_keep 13 = .ok (.iastore, 1) := by decide +kernel
theorem d_Rotors_keep_14 : decode bc_Rotors_keep 14 = .ok (.aload_n 0, 1) := by decide +kernel
theorem d_Rotors_keep_15 : decode bc_Rotors_keep 15 = .ok (.getfield 18, 3) := by decide +kernel
theorem d_Rotors_keep_18 : decode bc_Rotors_keep 18 = .ok (.iload_n 1, 1) := by decide +kernel
theorem d_Rotors_keep_19 : decode bc_Rotors_keep 19 = .ok (.iload 4, 2) := by decide +kernel
theorem d_Rotors_keep_21 : decode bc_Rotors_keep 21 = .ok (.iastore, 1) := by decide +kernel
theorem d_Rotors_keep_22 : decode bc_Rotors_keep 22 = .ok (.aload_n 0, 1) := by decide +kernel
theorem d_Rotors_keep_23 : decode bc_Rotors_keep 23 = .ok (.getfield 21, 3) := by decide +kernel
theorem d_Rotors_keep_26 : decode bc_Rotors_keep 26 = .ok (.iload_n 1, 1) := by decide +kernel
theorem d_Rotors_keep_27 : decode bc_Rotors_keep 27 = .ok (.iload 5, 2) := by decide +kernel
theorem d_Rotors_keep_29 : decode bc_Rotors_keep 29 = .ok (.iastore, 1) := by decide +kernel
theorem d_Rotors_keep_30 : decode bc_Rotors_keep 30 = .ok (.return_, 1) := by decide +kernel
abbrev ap_Rotors_keep (M : XM) (u : ((Nat → Int32) × (Nat → Int32) × (Nat → Int32) × (Nat → Int32))) : XM := (M.1, M.2.1, (va_up (va_up (va_up (va_up M.2.2.1 2 (u.1)) 3 (u.2.1)) 4 (u.2.2.1)) 5 (u.2.2.2)), M.2.2.2)
def F_Rotors_keep (M : XM) (a1 : Int32) (a2 : Int32) (a3 : Int32) (a4 : Int32) (a5 : Int32) : ((Nat → Int32) × (Nat → Int32) × (Nat → Int32) × (Nat → Int32)) := ((upd (M.2.2.1 2) (a1).toNatClampNeg a2), (upd (M.2.2.1 3) (a1).toNatClampNeg a3), (upd (M.2.2.1 4) (a1).toNatClampNeg a4), (upd (M.2.2.1 5) (a1).toNatClampNeg a5))
set_option maxHeartbeats 4000000 in
set_option maxRecDepth 100000 in
theorem c_Rotors_keep (l : Launch) (dC : Nat → ClassId) (dI : Nat → Nat → Nat) (Z : Nat → ClassId) (A : Nat → Nat) (sz : Nat) (M : XM) (a1 : Int32) (a2 : Int32) (a3 : Int32) (a4 : Int32) (a5 : Int32) (hk : vp_in a1 4) : Met l y_Rotors_keep (.code y_Rotors_keep bc_Rotors_keep 6 none :: xw) ({ frames := 0, cells := 0, slots := 0, locals := 0 }) (va_Pc [.ref (A 1), .int a1, .int a2, .int a3, .int a4, .int a5] (xB (dC, dI) xcl (xty Z) sz [(A 1, xc1 Z A M), (A 2, xc2 Z A M), (A 3, xc3 Z A M), (A 4, xc4 Z A M), (A 5, xc5 Z A M)])) (va_Qv (fun u : ((Nat → Int32) × (Nat → Int32) × (Nat → Int32) × (Nat → Int32)) => u = F_Rotors_keep M a1 a2 a3 a4 a5) (fun u => xE (dC, dI) xcl (xty Z) (va_A [(A 1, xc1 Z A M), (A 2, xc2 Z A M), (A 3, xc3 Z A M), (A 4, xc4 Z A M), (A 5, xc5 Z A M)] sz) [(A 1, xc1 Z A (ap_Rotors_keep M u)), (A 2, xc2 Z A (ap_Rotors_keep M u)), (A 3, xc3 Z A (ap_Rotors_keep M u)), (A 4, xc4 Z A (ap_Rotors_keep M u)), (A 5, xc5 Z A (ap_Rotors_keep M u))]) (va_A [(A 1, xc1 Z A M), (A 2, xc2 Z A M), (A 3, xc3 Z A M), (A 4, xc4 Z A M), (A 5, xc5 Z A M)] sz)) 0 0 (va_A [(A 1, xc1 Z A M), (A 2, xc2 Z A M), (A 3, xc3 Z A M), (A 4, xc4 Z A M), (A 5, xc5 Z A M)] sz) := by
  refine Met.ofW (cc := bc_Rotors_keep) (maxL := 6) (ret := none) (by decide) rfl ?_
  intro p e s m args below meth c s₁ B hml hv
  obtain ⟨rfl, hsz, hP, hK, hD0, hq⟩ := hv
  have hx := B.exec
  have hb := B.bytes
  have hr := B.returns
  have hts := atoms_spec (ws := (.code y_Rotors_keep bc_Rotors_keep 6 none :: xw)) B.pre
  have htt : ∀ w ∈ xw, w.before _ s = true := fun w h => hts w (List.mem_cons_of_mem _ h)
  have hown : s.vm.findClass "CentrifugeUnit$Rotors" = some m.cls := findClass_of_methodNamed B.named
  have hlocks := B.notSynchronized
  subst hsz
  have hD := hD0.self (sz := s.heap.size)
  generalize hAe : va_A [(A 1, xc1 Z A M), (A 2, xc2 Z A M), (A 3, xc3 Z A M), (A 4, xc4 Z A M), (A 5, xc5 Z A M)] s.heap.size = AA at hD ⊢
  have hA : ∀ q : Nat, s.heap.size ≤ q → AA q := fun q h => by rw [← hAe]; exact Or.inr h
  have hS : va_S AA s.heap s.heap [] := va_S.rf
  have hP : va_P (dC, dI) xcl [(A 1, .inr (5, [.ref (A 2), .ref (A 3), .ref (A 4), .ref (A 5), .int (M.1 0)])), (A 2, .inl (Z 0, 4, .inl (M.2.2.1 2))), (A 3, .inl (Z 0, 4, .inl (M.2.2.1 3))), (A 4, .inl (Z 0, 4, .inl (M.2.2.1 4))), (A 5, .inl (Z 0, 4, .inl (M.2.2.1 5)))] s.heap := hP
  have hD : va_D AA [(A 1, .inr (5, [.ref (A 2), .ref (A 3), .ref (A 4), .ref (A 5), .int (M.1 0)])), (A 2, .inl (Z 0, 4, .inl (M.2.2.1 2))), (A 3, .inl (Z 0, 4, .inl (M.2.2.1 3))), (A 4, .inl (Z 0, 4, .inl (M.2.2.1 4))), (A 5, .inl (Z 0, 4, .inl (M.2.2.1 5)))] := hD
  have hl := lv_entry ([.ref (A 1), .int a1, .int a2, .int a3, .int a4, .int a5]) (n := 6) (Nat.le_of_ble_eq_true rfl)
  rw [lg_entry_eq]
  generalize (lg_sl ([.ref (A 1), .int a1, .int a2, .int a3, .int a4, .int a5]) ++ List.replicate (6 - (lg_sl ([.ref (A 1), .int a1, .int a2, .int a3, .int a4, .int a5])).length) Slot.unset).toArray = ls at hl ⊢
  have hl : lv_has ls 6 [(0, .ref (A 1)), (1, .int a1), (2, .int a2), (3, .int a3), (4, .int a4), (5, .int a5)] := hl
  refine lv_aload_n hx hb d_Rotors_keep_0 rfl (lv_at hl 0 rfl) ?_
  refine va_get (D := (dC, dI)) (ci := 5) (v := .ref (A 2)) (C := "CentrifugeUnit$Rotors") (T := xF5) (N := 5) hx hb htt xin5 hown hK hP 0 rfl rfl 0 (by decide) (htt _ tw_37) (fun _ h9 => h9) rfl d_Rotors_keep_1 ?_
  refine lv_iload_n hx hb d_Rotors_keep_4 rfl (lv_at hl 1 rfl) ?_
  refine lv_iload_n hx hb d_Rotors_keep_5 rfl (lv_at hl 2 rfl) ?_
  refine va_iast (D := (dC, dI)) hx hb hK hP hD hS 1 0 rfl rfl hk d_Rotors_keep_6 (fun H locs hP hD hS => ?_)
  have hP : va_P (dC, dI) xcl [(A 1, .inr (5, [.ref (A 2), .ref (A 3), .ref (A 4), .ref (A 5), .int (M.1 0)])), (A 2, .inl (Z 0, 4, .inl (upd (M.2.2.1 2) (a1).toNatClampNeg a2))), (A 3, .inl (Z 0, 4, .inl (M.2.2.1 3))), (A 4, .inl (Z 0, 4, .inl (M.2.2.1 4))), (A 5, .inl (Z 0, 4, .inl (M.2.2.1 5)))] H := hP
  have hD : va_D AA [(A 1, .inr (5, [.ref (A 2), .ref (A 3), .ref (A 4), .ref (A 5), .int (M.1 0)])), (A 2, .inl (Z 0, 4, .inl (upd (M.2.2.1 2) (a1).toNatClampNeg a2))), (A 3, .inl (Z 0, 4, .inl (M.2.2.1 3))), (A 4, .inl (Z 0, 4, .inl (M.2.2.1 4))), (A 5, .inl (Z 0, 4, .inl (M.2.2.1 5)))] := hD
  refine lv_aload_n hx hb d_Rotors_keep_7 rfl (lv_at hl 0 rfl) ?_
  refine va_get (D := (dC, dI)) (ci := 5) (v := .ref (A 3)) (C := "CentrifugeUnit$Rotors") (T := xF5) (N := 5) hx hb htt xin5 hown hK hP 0 rfl rfl 1 (by decide) (htt _ tw_38) (fun _ h9 => h9) rfl d_Rotors_keep_8 ?_
  refine lv_iload_n hx hb d_Rotors_keep_11 rfl (lv_at hl 1 rfl) ?_
  refine lv_iload_n hx hb d_Rotors_keep_12 rfl (lv_at hl 3 rfl) ?_
  refine va_iast (D := (dC, dI)) hx hb hK hP hD hS 2 0 rfl rfl hk d_Rotors_keep_13 (fun H locs hP hD hS => ?_)
  have hP : va_P (dC, dI) xcl [(A 1, .inr (5, [.ref (A 2), .ref (A 3), .ref (A 4), .ref (A 5), .int (M.1 0)])), (A 2, .inl (Z 0, 4, .inl (upd (M.2.2.1 2) (a1).toNatClampNeg a2))), (A 3, .inl (Z 0, 4, .inl (upd (M.2.2.1 3) (a1).toNatClampNeg a3))), (A 4, .inl (Z 0, 4, .inl (M.2.2.1 4))), (A 5, .inl (Z 0, 4, .inl (M.2.2.1 5)))] H := hP
  have hD : va_D AA [(A 1, .inr (5, [.ref (A 2), .ref (A 3), .ref (A 4), .ref (A 5), .int (M.1 0)])), (A 2, .inl (Z 0, 4, .inl (upd (M.2.2.1 2) (a1).toNatClampNeg a2))), (A 3, .inl (Z 0, 4, .inl (upd (M.2.2.1 3) (a1).toNatClampNeg a3))), (A 4, .inl (Z 0, 4, .inl (M.2.2.1 4))), (A 5, .inl (Z 0, 4, .inl (M.2.2.1 5)))] := hD
  refine lv_aload_n hx hb d_Rotors_keep_14 rfl (lv_at hl 0 rfl) ?_
  refine va_get (D := (dC, dI)) (ci := 5) (v := .ref (A 4)) (C := "CentrifugeUnit$Rotors") (T := xF5) (N := 5) hx hb htt xin5 hown hK hP 0 rfl rfl 2 (by decide) (htt _ tw_39) (fun _ h9 => h9) rfl d_Rotors_keep_15 ?_
  refine lv_iload_n hx hb d_Rotors_keep_18 rfl (lv_at hl 1 rfl) ?_
  refine lv_iload hx hb d_Rotors_keep_19 (lv_at hl 4 rfl) ?_
  refine va_iast (D := (dC, dI)) hx hb hK hP hD hS 3 0 rfl rfl hk d_Rotors_keep_21 (fun H locs hP hD hS => ?_)
  have hP : va_P (dC, dI) xcl [(A 1, .inr (5, [.ref (A 2), .ref (A 3), .ref (A 4), .ref (A 5), .int (M.1 0)])), (A 2, .inl (Z 0, 4, .inl (upd (M.2.2.1 2) (a1).toNatClampNeg a2))), (A 3, .inl (Z 0, 4, .inl (upd (M.2.2.1 3) (a1).toNatClampNeg a3))), (A 4, .inl (Z 0, 4, .inl (upd (M.2.2.1 4) (a1).toNatClampNeg a4))), (A 5, .inl (Z 0, 4, .inl (M.2.2.1 5)))] H := hP
  have hD : va_D AA [(A 1, .inr (5, [.ref (A 2), .ref (A 3), .ref (A 4), .ref (A 5), .int (M.1 0)])), (A 2, .inl (Z 0, 4, .inl (upd (M.2.2.1 2) (a1).toNatClampNeg a2))), (A 3, .inl (Z 0, 4, .inl (upd (M.2.2.1 3) (a1).toNatClampNeg a3))), (A 4, .inl (Z 0, 4, .inl (upd (M.2.2.1 4) (a1).toNatClampNeg a4))), (A 5, .inl (Z 0, 4, .inl (M.2.2.1 5)))] := hD
  refine lv_aload_n hx hb d_Rotors_keep_22 rfl (lv_at hl 0 rfl) ?_
  refine va_get (D := (dC, dI)) (ci := 5) (v := .ref (A 5)) (C := "CentrifugeUnit$Rotors") (T := xF5) (N := 5) hx hb htt xin5 hown hK hP 0 rfl rfl 3 (by decide) (htt _ tw_40) (fun _ h9 => h9) rfl d_Rotors_keep_23 ?_
  refine lv_iload_n hx hb d_Rotors_keep_26 rfl (lv_at hl 1 rfl) ?_
  refine lv_iload hx hb d_Rotors_keep_27 (lv_at hl 5 rfl) ?_
  refine va_iast (D := (dC, dI)) hx hb hK hP hD hS 4 0 rfl rfl hk d_Rotors_keep_29 (fun H locs hP hD hS => ?_)
  have hP : va_P (dC, dI) xcl [(A 1, .inr (5, [.ref (A 2), .ref (A 3), .ref (A 4), .ref (A 5), .int (M.1 0)])), (A 2, .inl (Z 0, 4, .inl (upd (M.2.2.1 2) (a1).toNatClampNeg a2))), (A 3, .inl (Z 0, 4, .inl (upd (M.2.2.1 3) (a1).toNatClampNeg a3))), (A 4, .inl (Z 0, 4, .inl (upd (M.2.2.1 4) (a1).toNatClampNeg a4))), (A 5, .inl (Z 0, 4, .inl (upd (M.2.2.1 5) (a1).toNatClampNeg a5)))] H := hP
  have hD : va_D AA [(A 1, .inr (5, [.ref (A 2), .ref (A 3), .ref (A 4), .ref (A 5), .int (M.1 0)])), (A 2, .inl (Z 0, 4, .inl (upd (M.2.2.1 2) (a1).toNatClampNeg a2))), (A 3, .inl (Z 0, 4, .inl (upd (M.2.2.1 3) (a1).toNatClampNeg a3))), (A 4, .inl (Z 0, 4, .inl (upd (M.2.2.1 4) (a1).toNatClampNeg a4))), (A 5, .inl (Z 0, 4, .inl (upd (M.2.2.1 5) (a1).toNatClampNeg a5)))] := hD
  have hP9 := hP.sub (ws' := [(A 1, xc1 Z A (ap_Rotors_keep M ((upd (M.2.2.1 2) (a1).toNatClampNeg a2), (upd (M.2.2.1 3) (a1).toNatClampNeg a3), (upd (M.2.2.1 4) (a1).toNatClampNeg a4), (upd (M.2.2.1 5) (a1).toNatClampNeg a5)))), (A 2, xc2 Z A (ap_Rotors_keep M ((upd (M.2.2.1 2) (a1).toNatClampNeg a2), (upd (M.2.2.1 3) (a1).toNatClampNeg a3), (upd (M.2.2.1 4) (a1).toNatClampNeg a4), (upd (M.2.2.1 5) (a1).toNatClampNeg a5)))), (A 3, xc3 Z A (ap_Rotors_keep M ((upd (M.2.2.1 2) (a1).toNatClampNeg a2), (upd (M.2.2.1 3) (a1).toNatClampNeg a3), (upd (M.2.2.1 4) (a1).toNatClampNeg a4), (upd (M.2.2.1 5) (a1).toNatClampNeg a5)))), (A 4, xc4 Z A (ap_Rotors_keep M ((upd (M.2.2.1 2) (a1).toNatClampNeg a2), (upd (M.2.2.1 3) (a1).toNatClampNeg a3), (upd (M.2.2.1 4) (a1).toNatClampNeg a4), (upd (M.2.2.1 5) (a1).toNatClampNeg a5)))), (A 5, xc5 Z A (ap_Rotors_keep M ((upd (M.2.2.1 2) (a1).toNatClampNeg a2), (upd (M.2.2.1 3) (a1).toNatClampNeg a3), (upd (M.2.2.1 4) (a1).toNatClampNeg a4), (upd (M.2.2.1 5) (a1).toNatClampNeg a5))))]) [0, 1, 2, 3, 4] rfl
  have hD9 := hD.sub (ws' := [(A 1, xc1 Z A (ap_Rotors_keep M ((upd (M.2.2.1 2) (a1).toNatClampNeg a2), (upd (M.2.2.1 3) (a1).toNatClampNeg a3), (upd (M.2.2.1 4) (a1).toNatClampNeg a4), (upd (M.2.2.1 5) (a1).toNatClampNeg a5)))), (A 2, xc2 Z A (ap_Rotors_keep M ((upd (M.2.2.1 2) (a1).toNatClampNeg a2), (upd (M.2.2.1 3) (a1).toNatClampNeg a3), (upd (M.2.2.1 4) (a1).toNatClampNeg a4), (upd (M.2.2.1 5) (a1).toNatClampNeg a5)))), (A 3, xc3 Z A (ap_Rotors_keep M ((upd (M.2.2.1 2) (a1).toNatClampNeg a2), (upd (M.2.2.1 3) (a1).toNatClampNeg a3), (upd (M.2.2.1 4) (a1).toNatClampNeg a4), (upd (M.2.2.1 5) (a1).toNatClampNeg a5)))), (A 4, xc4 Z A (ap_Rotors_keep M ((upd (M.2.2.1 2) (a1).toNatClampNeg a2), (upd (M.2.2.1 3) (a1).toNatClampNeg a3), (upd (M.2.2.1 4) (a1).toNatClampNeg a4), (upd (M.2.2.1 5) (a1).toNatClampNeg a5)))), (A 5, xc5 Z A (ap_Rotors_keep M ((upd (M.2.2.1 2) (a1).toNatClampNeg a2), (upd (M.2.2.1 3) (a1).toNatClampNeg a3), (upd (M.2.2.1 4) (a1).toNatClampNeg a4), (upd (M.2.2.1 5) (a1).toNatClampNeg a5))))]) [0, 1, 2, 3, 4] (by decide) rfl
  exact W.vret hx hb hr (fun t ht hW => ⟨⟨((upd (M.2.2.1 2) (a1).toNatClampNeg a2), (upd (M.2.2.1 3) (a1).toNatClampNeg a3), (upd (M.2.2.1 4) (a1).toNatClampNeg a4), (upd (M.2.2.1 5) (a1).toNatClampNeg a5)), rfl, (by rw [F_Rotors_keep]), xE_at hP9 hK hD9 ht hW⟩, hS.F ht⟩) hS.2.2 d_Rotors_keep_30
abbrev bc_Rotors_patternIn : ByteArray := prog_7_method_7_code
def y_Rotors_patternIn : MethodName := ⟨"CentrifugeUnit$Rotors", "patternIn", "()I"⟩
theorem d_Rotors_patternIn_0 : decode bc_Rotors_patternIn 0 = .ok (.aload_n 0, 1) := by decide +kernel
theorem d_Rotors_patternIn_1 : decode bc_Rotors_patternIn 1 = .ok (.getfield 24, 3) := by decide +kernel
theorem d_Rotors_patternIn_4 : decode bc_Rotors_patternIn 4 = .ok (.invokestatic 38, 3) := by decide +kernel
theorem d_Rotors_patternIn_7 : decode bc_Rotors_patternIn 7 = .ok (.ifCond .eq 15, 3) := by decide +kernel
theorem d_Rotors_patternIn_10 : decode bc_Rotors_patternIn 10 = .ok (.aload_n 0, 1) := by decide +kernel
theorem d_Rotors_patternIn_11 : decode bc_Rotors_patternIn 11 = .ok (.getfield 11, 3) := by decide +kernel
theorem d_Rotors_patternIn_14 : decode bc_Rotors_patternIn 14 = .ok (.aload_n 0, 1) := by decide +kernel
theorem d_Rotors_patternIn_15 : decode bc_Rotors_patternIn 15 = .ok (.getfield 24, 3) := by decide +kernel
theorem d_Rotors_patternIn_18 : decode bc_Rotors_patternIn 18 = .ok (.iaload, 1) := by decide +kernel
theorem d_Rotors_patternIn_19 : decode bc_Rotors_patternIn 19 = .ok (.goto 4, 3) := by decide +kernel
theorem d_Rotors_patternIn_22 : decode bc_Rotors_patternIn 22 = .ok (.iconst (-1), 1) := by decide +kernel
theorem d_Rotors_patternIn_23 : decode bc_Rotors_patternIn 23 = .ok (.ireturn, 1) := by decide +kernel
def F_Rotors_patternIn_k2 (M : XM) (z1 : Int32) : Int32 := (if z1 = 0 then (-1) else ((M.2.2.1 2) ((M.1 0)).toNatClampNeg))
def F_Rotors_patternIn (M : XM) : Int32 := (F_Rotors_patternIn_k2 M (F_Rotors_exists M (M.1 0)))
set_option maxHeartbeats 4000000 in
set_option maxRecDepth 100000 in
theorem c_Rotors_patternIn (l : Launch) (dC : Nat → ClassId) (dI : Nat → Nat → Nat) (Z : Nat → ClassId) (A : Nat → Nat) (sz : Nat) (M : XM) : Met l y_Rotors_patternIn (.code y_Rotors_patternIn bc_Rotors_patternIn 1 (some .int) :: xw) ({ frames := 2, cells := 0, slots := 0, locals := 42 }) (va_Pc [.ref (A 1)] (xB (dC, dI) xcl (xty Z) sz [(A 1, xc1 Z A M), (A 2, xc2 Z A M)])) (k2_QcV (.int (F_Rotors_patternIn M))) 0 0 (fun _ => False) := by
  refine Met.ofW (cc := bc_Rotors_patternIn) (maxL := 1) (ret := (some .int)) (by decide) rfl ?_
  intro p e s m args below meth c s₁ B hml hv
  obtain ⟨rfl, hsz, hP, hK, hD0, hq⟩ := hv
  have hx := B.exec
  have hb := B.bytes
  have hr := B.returns
  have hts := atoms_spec (ws := (.code y_Rotors_patternIn bc_Rotors_patternIn 1 (some .int) :: xw)) B.pre
  have htt : ∀ w ∈ xw, w.before _ s = true := fun w h => hts w (List.mem_cons_of_mem _ h)
  have hown : s.vm.findClass "CentrifugeUnit$Rotors" = some m.cls := findClass_of_methodNamed B.named
  have hlocks := B.notSynchronized
  subst hsz
  have hD : va_D (fun _ => True) [(A 1, .inr (5, [.ref (A 2), .ref (A 3), .ref (A 4), .ref (A 5), .int (M.1 0)])), (A 2, .inl (Z 0, 4, .inl (M.2.2.1 2)))] := hD0
  have hP : va_P (dC, dI) xcl [(A 1, .inr (5, [.ref (A 2), .ref (A 3), .ref (A 4), .ref (A 5), .int (M.1 0)])), (A 2, .inl (Z 0, 4, .inl (M.2.2.1 2)))] s.heap := hP
  have hl := lv_entry ([.ref (A 1)]) (n := 1) (Nat.le_of_ble_eq_true rfl)
  rw [lg_entry_eq]
  generalize (lg_sl ([.ref (A 1)]) ++ List.replicate (1 - (lg_sl ([.ref (A 1)])).length) Slot.unset).toArray = ls at hl ⊢
  have hl : lv_has ls 1 [(0, .ref (A 1))] := hl
  refine lv_aload_n hx hb d_Rotors_patternIn_0 rfl (lv_at hl 0 rfl) ?_
  refine va_get (D := (dC, dI)) (ci := 5) (v := .int (M.1 0)) (C := "CentrifugeUnit$Rotors") (T := xF5) (N := 5) hx hb htt xin5 hown hK hP 0 rfl rfl 4 (by decide) (htt _ tw_41) (fun _ h9 => h9) rfl d_Rotors_patternIn_1 ?_
  have hPc := hP.sub (ws' := []) [] rfl
  have hDc := hD.sub (ws' := []) [] (by decide) rfl
  refine xk_p (va_runS (As := [.int (M.1 0)]) (rest := []) ⟨hx, hb, hml, hown, hts⟩ (c_Rotors_exists l dC dI Z A _ M (M.1 0)) (va_cwS 1 hts (xw_S _ tw_322 tw_323 tw_2 tw_324) rfl rfl rfl (by decide +kernel) ⟨Nat.le_of_ble_eq_true rfl, Nat.le_of_ble_eq_true rfl⟩) ⟨xB_blind, fun U hU hW => ⟨rfl, xB_at hPc hK hDc hq U hU hW⟩⟩ rfl rfl hl.1 rfl (lv_room (Nat.le_of_ble_eq_true rfl)) d_Rotors_patternIn_4 ⟨Nat.le_of_ble_eq_true rfl, Nat.le_of_ble_eq_true rfl⟩) ?_
  refine lv_topi (fun z1 hz1 => ?_)
  refine lv_if_eq (tgt := 22) hx hb d_Rotors_patternIn_7 rfl (fun h3 => ?_) (fun h3 => ?_)
  · refine lv_iconst (v := (-1)) hx hb d_Rotors_patternIn_22 (by decide) ?_
    exact W.iret hx hb hr (fun t ht hW => ⟨(by rw [F_Rotors_patternIn, ← hz1, F_Rotors_patternIn_k2, if_pos h3]), ht⟩) (fun _ h => absurd h List.not_mem_nil) d_Rotors_patternIn_23
  · refine lv_aload_n hx hb d_Rotors_patternIn_10 rfl (lv_at hl 0 rfl) ?_
    refine va_get (D := (dC, dI)) (ci := 5) (v := .ref (A 2)) (C := "CentrifugeUnit$Rotors") (T := xF5) (N := 5) hx hb htt xin5 hown hK hP 0 rfl rfl 0 (by decide) (htt _ tw_37) (fun _ h9 => h9) rfl d_Rotors_patternIn_11 ?_
    refine lv_aload_n hx hb d_Rotors_patternIn_14 rfl (lv_at hl 0 rfl) ?_
    refine va_get (D := (dC, dI)) (ci := 5) (v := .int (M.1 0)) (C := "CentrifugeUnit$Rotors") (T := xF5) (N := 5) hx hb htt xin5 hown hK hP 0 rfl rfl 4 (by decide) (htt _ tw_41) (fun _ h9 => h9) rfl d_Rotors_patternIn_15 ?_
    refine va_iald (D := (dC, dI)) hx hb hK hP 1 0 rfl rfl (xex h3 hz1) d_Rotors_patternIn_18 ?_
    refine lv_goto (tgt := 23) hx hb d_Rotors_patternIn_19 rfl ?_
    exact W.iret hx hb hr (fun t ht hW => ⟨(by rw [F_Rotors_patternIn, ← hz1, F_Rotors_patternIn_k2, if_neg h3]), ht⟩) (fun _ h => absurd h List.not_mem_nil) d_Rotors_patternIn_23
abbrev bc_Rotors_inertiaIn : ByteArray := prog_7_method_8_code
def y_Rotors_inertiaIn : MethodName := ⟨"CentrifugeUnit$Rotors", "inertiaIn", "()I"⟩
theorem d_Rotors_inertiaIn_0 : decode bc_Rotors_inertiaIn 0 = .ok (.aload_n 0, 1) := by decide +kernel
theorem d_Rotors_inertiaIn_1 : decode bc_Rotors_inertiaIn 1 = .ok (.getfield 24, 3) := by decide +kernel
theorem d_Rotors_inertiaIn_4 : decode bc_Rotors_inertiaIn 4 = .ok (.invokestatic 38, 3) := by decide +kernel
theorem d_Rotors_inertiaIn_7 : decode bc_Rotors_inertiaIn 7 = .ok (.ifCond .eq 15, 3) := by decide +kernel
theorem d_Rotors_inertiaIn_10 : decode bc_Rotors_inertiaIn 10 = .ok (.aload_n 0, 1) := by decide +kernel
theorem d_Rotors_inertiaIn_11 : decode bc_Rotors_inertiaIn 11 = .ok (.getfield 21, 3) := by decide +kernel
theorem d_Rotors_inertiaIn_14 : decode bc_Rotors_inertiaIn 14 = .ok (.aload_n 0, 1) := by decide +kernel
theorem d_Rotors_inertiaIn_15 : decode bc_Rotors_inertiaIn 15 = .ok (.getfield 24, 3) := by decide +kernel
theorem d_Rotors_inertiaIn_18 : decode bc_Rotors_inertiaIn 18 = .ok (.iaload, 1) := by decide +kernel
theorem d_Rotors_inertiaIn_19 : decode bc_Rotors_inertiaIn 19 = .ok (.goto 5, 3) := by decide +kernel
theorem d_Rotors_inertiaIn_22 : decode bc_Rotors_inertiaIn 22 = .ok (.bipush 100, 2) := by decide +kernel
theorem d_Rotors_inertiaIn_24 : decode bc_Rotors_inertiaIn 24 = .ok (.ireturn, 1) := by decide +kernel
def F_Rotors_inertiaIn_k2 (M : XM) (z1 : Int32) : Int32 := (if z1 = 0 then 100 else ((M.2.2.1 5) ((M.1 0)).toNatClampNeg))
def F_Rotors_inertiaIn (M : XM) : Int32 := (F_Rotors_inertiaIn_k2 M (F_Rotors_exists M (M.1 0)))
set_option maxHeartbeats 4000000 in
set_option maxRecDepth 100000 in
theorem c_Rotors_inertiaIn (l : Launch) (dC : Nat → ClassId) (dI : Nat → Nat → Nat) (Z : Nat → ClassId) (A : Nat → Nat) (sz : Nat) (M : XM) : Met l y_Rotors_inertiaIn (.code y_Rotors_inertiaIn bc_Rotors_inertiaIn 1 (some .int) :: xw) ({ frames := 2, cells := 0, slots := 0, locals := 42 }) (va_Pc [.ref (A 1)] (xB (dC, dI) xcl (xty Z) sz [(A 1, xc1 Z A M), (A 5, xc5 Z A M)])) (k2_QcV (.int (F_Rotors_inertiaIn M))) 0 0 (fun _ => False) := by
  refine Met.ofW (cc := bc_Rotors_inertiaIn) (maxL := 1) (ret := (some .int)) (by decide) rfl ?_
  intro p e s m args below meth c s₁ B hml hv
  obtain ⟨rfl, hsz, hP, hK, hD0, hq⟩ := hv
  have hx := B.exec
  have hb := B.bytes
  have hr := B.returns
  have hts := atoms_spec (ws := (.code y_Rotors_inertiaIn bc_Rotors_inertiaIn 1 (some .int) :: xw)) B.pre
  have htt : ∀ w ∈ xw, w.before _ s = true := fun w h => hts w (List.mem_cons_of_mem _ h)
  have hown : s.vm.findClass "CentrifugeUnit$Rotors" = some m.cls := findClass_of_methodNamed B.named
  have hlocks := B.notSynchronized
  subst hsz
  have hD : va_D (fun _ => True) [(A 1, .inr (5, [.ref (A 2), .ref (A 3), .ref (A 4), .ref (A 5), .int (M.1 0)])), (A 5, .inl (Z 0, 4, .inl (M.2.2.1 5)))] := hD0
  have hP : va_P (dC, dI) xcl [(A 1, .inr (5, [.ref (A 2), .ref (A 3), .ref (A 4), .ref (A 5), .int (M.1 0)])), (A 5, .inl (Z 0, 4, .inl (M.2.2.1 5)))] s.heap := hP
  have hl := lv_entry ([.ref (A 1)]) (n := 1) (Nat.le_of_ble_eq_true rfl)
  rw [lg_entry_eq]
  generalize (lg_sl ([.ref (A 1)]) ++ List.replicate (1 - (lg_sl ([.ref (A 1)])).length) Slot.unset).toArray = ls at hl ⊢
  have hl : lv_has ls 1 [(0, .ref (A 1))] := hl
  refine lv_aload_n hx hb d_Rotors_inertiaIn_0 rfl (lv_at hl 0 rfl) ?_
  refine va_get (D := (dC, dI)) (ci := 5) (v := .int (M.1 0)) (C := "CentrifugeUnit$Rotors") (T := xF5) (N := 5) hx hb htt xin5 hown hK hP 0 rfl rfl 4 (by decide) (htt _ tw_41) (fun _ h9 => h9) rfl d_Rotors_inertiaIn_1 ?_
  have hPc := hP.sub (ws' := []) [] rfl
  have hDc := hD.sub (ws' := []) [] (by decide) rfl
  refine xk_p (va_runS (As := [.int (M.1 0)]) (rest := []) ⟨hx, hb, hml, hown, hts⟩ (c_Rotors_exists l dC dI Z A _ M (M.1 0)) (va_cwS 1 hts (xw_S _ tw_322 tw_323 tw_2 tw_324) rfl rfl rfl (by decide +kernel) ⟨Nat.le_of_ble_eq_true rfl, Nat.le_of_ble_eq_true rfl⟩) ⟨xB_blind, fun U hU hW => ⟨rfl, xB_at hPc hK hDc hq U hU hW⟩⟩ rfl rfl hl.1 rfl (lv_room (Nat.le_of_ble_eq_true rfl)) d_Rotors_inertiaIn_4 ⟨Nat.le_of_ble_eq_true rfl, Nat.le_of_ble_eq_true rfl⟩) ?_
  refine lv_topi (fun z1 hz1 => ?_)
  refine lv_if_eq (tgt := 22) hx hb d_Rotors_inertiaIn_7 rfl (fun h3 => ?_) (fun h3 => ?_)
  · refine lv_bipush (v := 100) hx hb d_Rotors_inertiaIn_22 (by decide) ?_
    exact W.iret hx hb hr (fun t ht hW => ⟨(by rw [F_Rotors_inertiaIn, ← hz1, F_Rotors_inertiaIn_k2, if_pos h3]), ht⟩) (fun _ h => absurd h List.not_mem_nil) d_Rotors_inertiaIn_24
  · refine lv_aload_n hx hb d_Rotors_inertiaIn_10 rfl (lv_at hl 0 rfl) ?_
    refine va_get (D := (dC, dI)) (ci := 5) (v := .ref (A 5)) (C := "CentrifugeUnit$Rotors") (T := xF5) (N := 5) hx hb htt xin5 hown hK hP 0 rfl rfl 3 (by decide) (htt _ tw_40) (fun _ h9 => h9) rfl d_Rotors_inertiaIn_11 ?_
    refine lv_aload_n hx hb d_Rotors_inertiaIn_14 rfl (lv_at hl 0 rfl) ?_
    refine va_get (D := (dC, dI)) (ci := 5) (v := .int (M.1 0)) (C := "CentrifugeUnit$Rotors") (T := xF5) (N := 5) hx hb htt xin5 hown hK hP 0 rfl rfl 4 (by decide) (htt _ tw_41) (fun _ h9 => h9) rfl d_Rotors_inertiaIn_15 ?_
    refine va_iald (D := (dC, dI)) hx hb hK hP 1 0 rfl rfl (xex h3 hz1) d_Rotors_inertiaIn_18 ?_
    refine lv_goto (tgt := 24) hx hb d_Rotors_inertiaIn_19 rfl ?_
    exact W.iret hx hb hr (fun t ht hW => ⟨(by rw [F_Rotors_inertiaIn, ← hz1, F_Rotors_inertiaIn_k2, if_neg h3]), ht⟩) (fun _ h => absurd h List.not_mem_nil) d_Rotors_inertiaIn_24
abbrev bc_Rotors_radiusOf : ByteArray := prog_7_method_9_code
def y_Rotors_radiusOf : MethodName := ⟨"CentrifugeUnit$Rotors", "radiusOf", "(I)I"⟩
theorem d_Rotors_radiusOf_0 : decode bc_Rotors_radiusOf 0 = .ok (.iload_n 1, 1) := by decide +kernel
theorem d_Rotors_radiusOf_1 : decode bc_Rotors_radiusOf 1 = .ok (.invokestatic 38, 3) := by decide +kernel
theorem d_Rotors_radiusOf_4 : decode bc_Rotors_radiusOf 4 = .ok (.ifCond .eq 12, 3) := by decide +kernel
theorem d_Rotors_radiusOf_7 : decode bc_Rotors_radiusOf 7 = .ok (.aload_n 0, 1) := by decide +kernel
theorem d_Rotors_radiusOf_8 : decode bc_Rotors_radiusOf 8 = .ok (.getfield 15, 3) := by decide +kernel
theorem d_Rotors_radiusOf_11 : decode bc_Rotors_radiusOf 11 = .ok (.iload_n 1, 1) := by decide +kernel
theorem d_Rotors_radiusOf_12 : decode bc_Rotors_radiusOf 12 = .ok (.iaload, 1) := by decide +kernel
theorem d_Rotors_radiusOf_13 : decode bc_Rotors_radiusOf 13 = .ok (.goto 4, 3) := by decide +kernel
theorem d_Rotors_radiusOf_16 : decode bc_Rotors_radiusOf 16 = .ok (.iconst 0, 1) := by decide +kernel
theorem d_Rotors_radiusOf_17 : decode bc_Rotors_radiusOf 17 = .ok (.ireturn, 1) := by decide +kernel
def F_Rotors_radiusOf_k2 (M : XM) (a1 : Int32) (z1 : Int32) : Int32 := (if z1 = 0 then 0 else ((M.2.2.1 3) (a1).toNatClampNeg))
def F_Rotors_radiusOf (M : XM) (a1 : Int32) : Int32 := (F_Rotors_radiusOf_k2 M a1 (F_Rotors_exists M a1))
set_option maxHeartbeats 4000000 in
set_option maxRecDepth 100000 in
theorem c_Rotors_radiusOf (l : Launch) (dC : Nat → ClassId) (dI : Nat → Nat → Nat) (Z : Nat → ClassId) (A : Nat → Nat) (sz : Nat) (M : XM) (a1 : Int32) : Met l y_Rotors_radiusOf (.code y_Rotors_radiusOf bc_Rotors_radiusOf 2 (some .int) :: xw) ({ frames := 2, cells := 0, slots := 0, locals := 42 }) (va_Pc [.ref (A 1), .int a1] (xB (dC, dI) xcl (xty Z) sz [(A 1, xc1 Z A M), (A 3, xc3 Z A M)])) (k2_QcV (.int (F_Rotors_radiusOf M a1))) 0 0 (fun _ => False) := by
  refine Met.ofW (cc := bc_Rotors_radiusOf) (maxL := 2) (ret := (some .int)) (by decide) rfl ?_
  intro p e s m args below meth c s₁ B hml hv
  obtain ⟨rfl, hsz, hP, hK, hD0, hq⟩ := hv
  have hx := B.exec
  have hb := B.bytes
  have hr := B.returns
  have hts := atoms_spec (ws := (.code y_Rotors_radiusOf bc_Rotors_radiusOf 2 (some .int) :: xw)) B.pre
  have htt : ∀ w ∈ xw, w.before _ s = true := fun w h => hts w (List.mem_cons_of_mem _ h)
  have hown : s.vm.findClass "CentrifugeUnit$Rotors" = some m.cls := findClass_of_methodNamed B.named
  have hlocks := B.notSynchronized
  subst hsz
  have hD : va_D (fun _ => True) [(A 1, .inr (5, [.ref (A 2), .ref (A 3), .ref (A 4), .ref (A 5), .int (M.1 0)])), (A 3, .inl (Z 0, 4, .inl (M.2.2.1 3)))] := hD0
  have hP : va_P (dC, dI) xcl [(A 1, .inr (5, [.ref (A 2), .ref (A 3), .ref (A 4), .ref (A 5), .int (M.1 0)])), (A 3, .inl (Z 0, 4, .inl (M.2.2.1 3)))] s.heap := hP
  have hl := lv_entry ([.ref (A 1), .int a1]) (n := 2) (Nat.le_of_ble_eq_true rfl)
  rw [lg_entry_eq]
  generalize (lg_sl ([.ref (A 1), .int a1]) ++ List.replicate (2 - (lg_sl ([.ref (A 1), .int a1])).length) Slot.unset).toArray = ls at hl ⊢
  have hl : lv_has ls 2 [(0, .ref (A 1)), (1, .int a1)] := hl
  refine lv_iload_n hx hb d_Rotors_radiusOf_0 rfl (lv_at hl 1 rfl) ?_
  have hPc := hP.sub (ws' := []) [] rfl
  have hDc := hD.sub (ws' := []) [] (by decide) rfl
  refine xk_p (va_runS (As := [.int a1]) (rest := []) ⟨hx, hb, hml, hown, hts⟩ (c_Rotors_exists l dC dI Z A _ M a1) (va_cwS 1 hts (xw_S _ tw_322 tw_323 tw_2 tw_324) rfl rfl rfl (by decide +kernel) ⟨Nat.le_of_ble_eq_true rfl, Nat.le_of_ble_eq_true rfl⟩) ⟨xB_blind, fun U hU hW => ⟨rfl, xB_at hPc hK hDc hq U hU hW⟩⟩ rfl rfl hl.1 rfl (lv_room (Nat.le_of_ble_eq_true rfl)) d_Rotors_radiusOf_1 ⟨Nat.le_of_ble_eq_true rfl, Nat.le_of_ble_eq_true rfl⟩) ?_
  refine lv_topi (fun z1 hz1 => ?_)
  refine lv_if_eq (tgt := 16) hx hb d_Rotors_radiusOf_4 rfl (fun h3 => ?_) (fun h3 => ?_)
  · refine lv_iconst (v := 0) hx hb d_Rotors_radiusOf_16 (by decide) ?_
    exact W.iret hx hb hr (fun t ht hW => ⟨(by rw [F_Rotors_radiusOf, ← hz1, F_Rotors_radiusOf_k2, if_pos h3]), ht⟩) (fun _ h => absurd h List.not_mem_nil) d_Rotors_radiusOf_17
  · refine lv_aload_n hx hb d_Rotors_radiusOf_7 rfl (lv_at hl 0 rfl) ?_
    refine va_get (D := (dC, dI)) (ci := 5) (v := .ref (A 3)) (C := "CentrifugeUnit$Rotors") (T := xF5) (N := 5) hx hb htt xin5 hown hK hP 0 rfl rfl 1 (by decide) (htt _ tw_38) (fun _ h9 => h9) rfl d_Rotors_radiusOf_8 ?_
    refine lv_iload_n hx hb d_Rotors_radiusOf_11 rfl (lv_at hl 1 rfl) ?_
    refine va_iald (D := (dC, dI)) hx hb hK hP 1 0 rfl rfl (xex h3 hz1) d_Rotors_radiusOf_12 ?_
    refine lv_goto (tgt := 17) hx hb d_Rotors_radiusOf_13 rfl ?_
    exact W.iret hx hb hr (fun t ht hW => ⟨(by rw [F_Rotors_radiusOf, ← hz1, F_Rotors_radiusOf_k2, if_neg h3]), ht⟩) (fun _ h => absurd h List.not_mem_nil) d_Rotors_radiusOf_17
abbrev bc_Rotors_limitOf : ByteArray := prog_7_method_10_code
def y_Rotors_limitOf : MethodName := ⟨"CentrifugeUnit$Rotors", "limitOf", "(I)I"⟩
theorem d_Rotors_limitOf_0 : decode bc_Rotors_limitOf 0 = .ok (.iload_n 1, 1) := by decide +kernel
theorem d_Rotors_limitOf_1 : decode bc_Rotors_limitOf 1 = .ok (.invokestatic 38, 3) := by decide +kernel
theorem d_Rotors_limitOf_4 : decode bc_Rotors_limitOf 4 = .ok (.ifCond .eq 12, 3) := by decide +kernel
theorem d_Rotors_limitOf_7 : decode bc_Rotors_limitOf 7 = .ok (.aload_n 0, 1) := by decide +kernel
theorem d_Rotors_limitOf_8 : decode bc_Rotors_limitOf 8 = .ok (.getfield 18, 3) := by decide +kernel
theorem d_Rotors_limitOf_11 : decode bc_Rotors_limitOf 11 = .ok (.iload_n 1, 1) := by decide +kernel
theorem d_Rotors_limitOf_12 : decode bc_Rotors_limitOf 12 = .ok (.iaload, 1) := by decide +kernel
theorem d_Rotors_limitOf_13 : decode bc_Rotors_limitOf 13 = .ok (.goto 6, 3) := by decide +kernel
theorem d_Rotors_limitOf_16 : decode bc_Rotors_limitOf 16 = .ok (.sipush 3000, 3) := by decide +kernel
theorem d_Rotors_limitOf_19 : decode bc_Rotors_limitOf 19 = .ok (.ireturn, 1) := by decide +kernel
def F_Rotors_limitOf_k2 (M : XM) (a1 : Int32) (z1 : Int32) : Int32 := (if z1 = 0 then 3000 else ((M.2.2.1 4) (a1).toNatClampNeg))
def F_Rotors_limitOf (M : XM) (a1 : Int32) : Int32 := (F_Rotors_limitOf_k2 M a1 (F_Rotors_exists M a1))
set_option maxHeartbeats 4000000 in
set_option maxRecDepth 100000 in
theorem c_Rotors_limitOf (l : Launch) (dC : Nat → ClassId) (dI : Nat → Nat → Nat) (Z : Nat → ClassId) (A : Nat → Nat) (sz : Nat) (M : XM) (a1 : Int32) : Met l y_Rotors_limitOf (.code y_Rotors_limitOf bc_Rotors_limitOf 2 (some .int) :: xw) ({ frames := 2, cells := 0, slots := 0, locals := 42 }) (va_Pc [.ref (A 1), .int a1] (xB (dC, dI) xcl (xty Z) sz [(A 1, xc1 Z A M), (A 4, xc4 Z A M)])) (k2_QcV (.int (F_Rotors_limitOf M a1))) 0 0 (fun _ => False) := by
  refine Met.ofW (cc := bc_Rotors_limitOf) (maxL := 2) (ret := (some .int)) (by decide) rfl ?_
  intro p e s m args below meth c s₁ B hml hv
  obtain ⟨rfl, hsz, hP, hK, hD0, hq⟩ := hv
  have hx := B.exec
  have hb := B.bytes
  have hr := B.returns
  have hts := atoms_spec (ws := (.code y_Rotors_limitOf bc_Rotors_limitOf 2 (some .int) :: xw)) B.pre
  have htt : ∀ w ∈ xw, w.before _ s = true := fun w h => hts w (List.mem_cons_of_mem _ h)
  have hown : s.vm.findClass "CentrifugeUnit$Rotors" = some m.cls := findClass_of_methodNamed B.named
  have hlocks := B.notSynchronized
  subst hsz
  have hD : va_D (fun _ => True) [(A 1, .inr (5, [.ref (A 2), .ref (A 3), .ref (A 4), .ref (A 5), .int (M.1 0)])), (A 4, .inl (Z 0, 4, .inl (M.2.2.1 4)))] := hD0
  have hP : va_P (dC, dI) xcl [(A 1, .inr (5, [.ref (A 2), .ref (A 3), .ref (A 4), .ref (A 5), .int (M.1 0)])), (A 4, .inl (Z 0, 4, .inl (M.2.2.1 4)))] s.heap := hP
  have hl := lv_entry ([.ref (A 1), .int a1]) (n := 2) (Nat.le_of_ble_eq_true rfl)
  rw [lg_entry_eq]
  generalize (lg_sl ([.ref (A 1), .int a1]) ++ List.replicate (2 - (lg_sl ([.ref (A 1), .int a1])).length) Slot.unset).toArray = ls at hl ⊢
  have hl : lv_has ls 2 [(0, .ref (A 1)), (1, .int a1)] := hl
  refine lv_iload_n hx hb d_Rotors_limitOf_0 rfl (lv_at hl 1 rfl) ?_
  have hPc := hP.sub (ws' := []) [] rfl
  have hDc := hD.sub (ws' := []) [] (by decide) rfl
  refine xk_p (va_runS (As := [.int a1]) (rest := []) ⟨hx, hb, hml, hown, hts⟩ (c_Rotors_exists l dC dI Z A _ M a1) (va_cwS 1 hts (xw_S _ tw_322 tw_323 tw_2 tw_324) rfl rfl rfl (by decide +kernel) ⟨Nat.le_of_ble_eq_true rfl, Nat.le_of_ble_eq_true rfl⟩) ⟨xB_blind, fun U hU hW => ⟨rfl, xB_at hPc hK hDc hq U hU hW⟩⟩ rfl rfl hl.1 rfl (lv_room (Nat.le_of_ble_eq_true rfl)) d_Rotors_limitOf_1 ⟨Nat.le_of_ble_eq_true rfl, Nat.le_of_ble_eq_true rfl⟩) ?_
  refine lv_topi (fun z1 hz1 => ?_)
  refine lv_if_eq (tgt := 16) hx hb d_Rotors_limitOf_4 rfl (fun h3 => ?_) (fun h3 => ?_)
  · refine lv_sipush (v := 3000) hx hb d_Rotors_limitOf_16 (by decide) ?_
    exact W.iret hx hb hr (fun t ht hW => ⟨(by rw [F_Rotors_limitOf, ← hz1, F_Rotors_limitOf_k2, if_pos h3]), ht⟩) (fun _ h => absurd h List.not_mem_nil) d_Rotors_limitOf_19
  · refine lv_aload_n hx hb d_Rotors_limitOf_7 rfl (lv_at hl 0 rfl) ?_
    refine va_get (D := (dC, dI)) (ci := 5) (v := .ref (A 4)) (C := "CentrifugeUnit$Rotors") (T := xF5) (N := 5) hx hb htt xin5 hown hK hP 0 rfl rfl 2 (by decide) (htt _ tw_39) (fun _ h9 => h9) rfl d_Rotors_limitOf_8 ?_
    refine lv_iload_n hx hb d_Rotors_limitOf_11 rfl (lv_at hl 1 rfl) ?_
    refine va_iald (D := (dC, dI)) hx hb hK hP 1 0 rfl rfl (xex h3 hz1) d_Rotors_limitOf_12 ?_
    refine lv_goto (tgt := 19) hx hb d_Rotors_limitOf_13 rfl ?_
    exact W.iret hx hb hr (fun t ht hW => ⟨(by rw [F_Rotors_limitOf, ← hz1, F_Rotors_limitOf_k2, if_neg h3]), ht⟩) (fun _ h => absurd h List.not_mem_nil) d_Rotors_limitOf_19
abbrev bc_Program_allowed : ByteArray := prog_5_method_2_code
def y_Program_allowed : MethodName := ⟨"CentrifugeUnit$Program", "allowed", "(III)Z"⟩
theorem d_Program_allowed_0 : decode bc_Program_allowed 0 = .ok (.iload_n 0, 1) := by decide +kernel
theorem d_Program_allowed_1 : decode bc_Program_allowed 1 = .ok (.tableswitch 117 0 4 #[35, 63, 71, 79, 106], 35) := by decide +kernel
theorem d_Program_allowed_36 : decode bc_Program_allowed 36 = .ok (.iload_n 1, 1) := by decide +kernel
theorem d_Program_allowed_37 : decode bc_Program_allowed 37 = .ok (.iconst 0, 1) := by decide +kernel
theorem d_Program_allowed_38 : decode bc_Program_allowed 38 = .ok (.sipush 20000, 3) := by decide +kernel
theorem d_Program_allowed_41 : decode bc_Program_allowed 41 = .ok (.invokestatic 19, 3) := by decide +kernel
theorem d_Program_allowed_44 : decode bc_Program_allowed 44 = .ok (.ifCond .eq 18, 3) := by decide +kernel
theorem d_Program_allowed_47 : decode bc_Program_allowed 47 = .ok (.iload_n 2, 1) := by decide +kernel
theorem d_Program_allowed_48 : decode bc_Program_allowed 48 = .ok (.iconst 1, 1) := by decide +kernel
theorem d_Program_allowed_49 : decode bc_Program_allowed 49 = .ok (.sipush 500, 3) := by decide +kernel
theorem d_Program_allowed_52 : decode bc_Program_allowed 52 = .ok (.invokestatic 19, 3) := by decide +kernel
theorem d_Program_allowed_55 : decode bc_Program_allowed 55 = .ok (.ifCond .eq 7, 3) := by decide +kernel
theorem d_Program_allowed_58 : decode bc_Program_allowed 58 = .ok (.iconst 1, 1) := by decide +kernel
theorem d_Program_allowed_59 : decode bc_Program_allowed 59 = .ok (.goto 4, 3) := by decide +kernel
theorem d_Program_allowed_62 : decode bc_Program_allowed 62 = .ok (.iconst 0, 1) := by decide +kernel
theorem d_Program_allowed_63 : decode bc_Program_allowed 63 = .ok (.ireturn, 1) := by decide +kernel
theorem d_Program_allowed_64 : decode bc_Program_allowed 64 = .ok (.iload_n 1, 1) := by decide +kernel
theorem d_Program_allowed_65 : decode bc_Program_allowed 65 = .ok (.iconst 1, 1) := by decide +kernel
theorem d_Program_allowed_66 : decode bc_Program_allowed 66 = .ok (.ldc 25, 2) := by decide +kernel
theorem d_Program_allowed_68 : decode bc_Program_allowed 68 = .ok (.invokestatic 19, 3) := by decide +kernel
theorem d_Program_allowed_71 : decode bc_Program_allowed 71 = .ok (.ireturn, 1) := by decide +kernel
theorem d_Program_allowed_72 : decode bc_Program_allowed 72 = .ok (.iload_n 1, 1) := by decide +kernel
theorem d_Program_allowed_73 : decode bc_Program_allowed 73 = .ok (.iconst 1, 1) := by decide +kernel
theorem d_Program_allowed_74 : decode bc_Program_allowed 74 = .ok (.ldc 26, 2) := by decide +kernel
theorem d_Program_allowed_76 : decode bc_Program_allowed 76 = .ok (.invokestatic 19, 3) := by decide +kernel
theorem d_Program_allowed_79 : decode bc_Program_allowed 79 = .ok (.ireturn, 1) := by decide +kernel
theorem d_Program_allowed_80 : decode bc_Program_allowed 80 = .ok (.iload_n 1, 1) := by decide +kernel
theorem d_Program_allowed_81 : decode bc_Program_allowed 81 = .ok (.iconst 0, 1) := by decide +kernel
theorem d_Program_allowed_82 : decode bc_Program_allowed 82 = .ok (.sipush 20000, 3) := by decide +kernel
theorem d_Program_allowed_85 : decode bc_Program_allowed 85 = .ok (.invokestatic 19, 3) := by decide +kernel
theorem d_Program_allowed_88 : decode bc_Program_allowed 88 = .ok (.ifCond .eq 17, 3) := by decide +kernel
theorem d_Program_allowed_91 : decode bc_Program_allowed 91 = .ok (.iload_n 2, 1) := by decide +kernel
theorem d_Program_allowed_92 : decode bc_Program_allowed 92 = .ok (.iconst 1, 1) := by decide +kernel
theorem d_Program_allowed_93 : decode bc_Program_allowed 93 = .ok (.bipush 9, 2) := by decide +kernel
theorem d_Program_allowed_95 : decode bc_Program_allowed 95 = .ok (.invokestatic 19, 3) := by decide +kernel
theorem d_Program_allowed_98 : decode bc_Program_allowed 98 = .ok (.ifCond .eq 7, 3) := by decide +kernel
theorem d_Program_allowed_101 : decode bc_Program_allowed 101 = .ok (.iconst 1, 1) := by decide +kernel
theorem d_Program_allowed_102 : decode bc_Program_allowed 102 = .ok (.goto 4, 3) := by decide +kernel
theorem d_Program_allowed_105 : decode bc_Program_allowed 105 = .ok (.iconst 0, 1) := by decide +kernel
theorem d_Program_allowed_106 : decode bc_Program_allowed 106 = .ok (.ireturn, 1) := by decide +kernel
theorem d_Program_allowed_107 : decode bc_Program_allowed 107 = .ok (.iload_n 1, 1) := by decide +kernel
theorem d_Program_allowed_108 : decode bc_Program_allowed 108 = .ok (.sipush (-2000), 3) := by decide +kernel
theorem d_Program_allowed_111 : decode bc_Program_allowed 111 = .ok (.sipush 4000, 3) := by decide +kernel
theorem d_Program_allowed_114 : decode bc_Program_allowed 114 = .ok (.invokestatic 19, 3) := by decide +kernel
theorem d_Program_allowed_117 : decode bc_Program_allowed 117 = .ok (.ireturn, 1) := by decide +kernel
theorem d_Program_allowed_118 : decode bc_Program_allowed 118 = .ok (.iconst 0, 1) := by decide +kernel
theorem d_Program_allowed_119 : decode bc_Program_allowed 119 = .ok (.ireturn, 1) := by decide +kernel
def F_Program_allowed_k6 (M : XM) (a1 : Int32) (a2 : Int32) (a3 : Int32) (z2 : Int32) (z5 : Int32) : Int32 := (if z5 = 0 then 0 else 1)
def F_Program_allowed_k3 (M : XM) (a1 : Int32) (a2 : Int32) (a3 : Int32) (z2 : Int32) : Int32 := (if z2 = 0 then 0 else (F_Program_allowed_k6 M a1 a2 a3 z2 (F_U_within M a3 1 500)))
def F_Program_allowed_k10 (M : XM) (a1 : Int32) (a2 : Int32) (a3 : Int32) (z9 : Int32) : Int32 := z9
def F_Program_allowed_k13 (M : XM) (a1 : Int32) (a2 : Int32) (a3 : Int32) (z12 : Int32) : Int32 := z12
def F_Program_allowed_k19 (M : XM) (a1 : Int32) (a2 : Int32) (a3 : Int32) (z15 : Int32) (z18 : Int32) : Int32 := (if z18 = 0 then 0 else 1)
def F_Program_allowed_k16 (M : XM) (a1 : Int32) (a2 : Int32) (a3 : Int32) (z15 : Int32) : Int32 := (if z15 = 0 then 0 else (F_Program_allowed_k19 M a1 a2 a3 z15 (F_U_within M a3 1 9)))
def F_Program_allowed_k23 (M : XM) (a1 : Int32) (a2 : Int32) (a3 : Int32) (z22 : Int32) : Int32 := z22
def F_Program_allowed (M : XM) (a1 : Int32) (a2 : Int32) (a3 : Int32) : Int32 := (if a1 = 0 then (F_Program_allowed_k3 M a1 a2 a3 (F_U_within M a2 0 20000)) else (if a1 = 1 then (F_Program_allowed_k10 M a1 a2 a3 (F_U_within M a2 1 100000)) else (if a1 = 2 then (F_Program_allowed_k13 M a1 a2 a3 (F_U_within M a2 1 1000000)) else (if a1 = 3 then (F_Program_allowed_k16 M a1 a2 a3 (F_U_within M a2 0 20000)) else (if a1 = 4 then (F_Program_allowed_k23 M a1 a2 a3 (F_U_within M a2 (-2000) 4000)) else 0)))))
theorem f01_Program_allowed (M : XM) (a1 : Int32) (a2 : Int32) (a3 : Int32) : F_Program_allowed M a1 a2 a3 = 0 ∨ F_Program_allowed M a1 a2 a3 = 1 := by
  simp only [F_Program_allowed_k6, F_Program_allowed_k3, F_Program_allowed_k10, F_Program_allowed_k13, F_Program_allowed_k19, F_Program_allowed_k16, F_Program_allowed_k23, F_Program_allowed]; repeat' split
  all_goals first | exact Or.inl rfl | exact Or.inr rfl | exact f01_U_within _ _ _ _ | simp
set_option maxHeartbeats 4000000 in
set_option maxRecDepth 100000 in
theorem c_Program_allowed (l : Launch) (dC : Nat → ClassId) (dI : Nat → Nat → Nat) (Z : Nat → ClassId) (A : Nat → Nat) (sz : Nat) (M : XM) (a1 : Int32) (a2 : Int32) (a3 : Int32) : Met l y_Program_allowed (.code y_Program_allowed bc_Program_allowed 3 (some .boolean) :: xw) ({ frames := 1, cells := 0, slots := 0, locals := 22 }) (va_Pc [.int a1, .int a2, .int a3] (xB (dC, dI) xcl (xty Z) sz [])) (k2_QcV (.int (F_Program_allowed M a1 a2 a3))) 0 0 (fun _ => False) := by
  refine Met.ofW (cc := bc_Program_allowed) (maxL := 3) (ret := (some .boolean)) (by decide) rfl ?_
  intro p e s m args below meth c s₁ B hml hv
  obtain ⟨rfl, hsz, hP, hK, hD0, hq⟩ := hv
  have hx := B.exec
  have hb := B.bytes
  have hr := B.returns
  have hts := atoms_spec (ws := (.code y_Program_allowed bc_Program_allowed 3 (some .boolean) :: xw)) B.pre
  have htt : ∀ w ∈ xw, w.before _ s = true := fun w h => hts w (List.mem_cons_of_mem _ h)
  have hown : s.vm.findClass "CentrifugeUnit$Program" = some m.cls := findClass_of_methodNamed B.named
  have hlocks := B.notSynchronized
  subst hsz
  have hD : va_D (fun _ => True) [] := hD0
  have hP : va_P (dC, dI) xcl [] s.heap := hP
  have hl := lv_entry ([.int a1, .int a2, .int a3]) (n := 3) (Nat.le_of_ble_eq_true rfl)
  rw [lg_entry_eq]
  generalize (lg_sl ([.int a1, .int a2, .int a3]) ++ List.replicate (3 - (lg_sl ([.int a1, .int a2, .int a3])).length) Slot.unset).toArray = ls at hl ⊢
  have hl : lv_has ls 3 [(0, .int a1), (1, .int a2), (2, .int a3)] := hl
  refine lv_iload_n hx hb d_Program_allowed_0 rfl (lv_at hl 0 rfl) ?_
  by_cases h1 : a1 = 0
  · refine lv_tableIn (off := 35) (tgt := 36) hx hb d_Program_allowed_1 (by rw [h1]; decide) (by rw [h1]; decide) (by rw [h1]; decide) rfl ?_
    refine lv_iload_n hx hb d_Program_allowed_36 rfl (lv_at hl 1 rfl) ?_
    refine lv_iconst (v := 0) hx hb d_Program_allowed_37 (by decide) ?_
    refine lv_sipush (v := 20000) hx hb d_Program_allowed_38 (by decide) ?_
    have hPc := hP.sub (ws' := []) [] rfl
    have hDc := hD.sub (ws' := []) [] (by decide) rfl
    refine xk_p (va_runSN (As := [.int a2, .int 0, .int 20000]) (rest := []) ⟨hx, hb, hml, hown, hts⟩ (c_U_within l dC dI Z A _ M a2 0 20000) ⟨va_cnB 3 hts (xw_call _ tw_327) rfl rfl rfl (hq.1 ("CentrifugeUnit$Program", 19, y_U_within, "CentrifugeUnit") (by decide +kernel)) (htt _ tw_1) (by decide +kernel) ⟨Nat.le_of_ble_eq_true rfl, Nat.le_of_ble_eq_true rfl⟩, htt _ tw_326, trivial⟩ ⟨xB_blind, fun U hU hW => ⟨rfl, xB_at hPc hK hDc hq U hU hW⟩⟩ rfl rfl hl.1 rfl (lv_room (Nat.le_of_ble_eq_true rfl)) d_Program_allowed_41 ⟨Nat.le_of_ble_eq_true rfl, Nat.le_of_ble_eq_true rfl⟩) ?_
    refine lv_topi (fun z2 hz2 => ?_)
    refine lv_if_eq (tgt := 62) hx hb d_Program_allowed_44 rfl (fun h4 => ?_) (fun h4 => ?_)
    · refine lv_iconst (v := 0) hx hb d_Program_allowed_62 (by decide) ?_
      exact W.zret (ty := .boolean) hx hb hr rfl (fun t ht hW => ⟨(by rw [F_Program_allowed, if_pos h1, ← hz2, F_Program_allowed_k3, if_pos h4]), ht⟩) (fun _ h => absurd h List.not_mem_nil) d_Program_allowed_63
    · refine lv_iload_n hx hb d_Program_allowed_47 rfl (lv_at hl 2 rfl) ?_
      refine lv_iconst (v := 1) hx hb d_Program_allowed_48 (by decide) ?_
      refine lv_sipush (v := 500) hx hb d_Program_allowed_49 (by decide) ?_
      have hPc := hP.sub (ws' := []) [] rfl
      have hDc := hD.sub (ws' := []) [] (by decide) rfl
      refine xk_p (va_runSN (As := [.int a3, .int 1, .int 500]) (rest := []) ⟨hx, hb, hml, hown, hts⟩ (c_U_within l dC dI Z A _ M a3 1 500) ⟨va_cnB 3 hts (xw_call _ tw_327) rfl rfl rfl (hq.1 ("CentrifugeUnit$Program", 19, y_U_within, "CentrifugeUnit") (by decide +kernel)) (htt _ tw_1) (by decide +kernel) ⟨Nat.le_of_ble_eq_true rfl, Nat.le_of_ble_eq_true rfl⟩, htt _ tw_326, trivial⟩ ⟨xB_blind, fun U hU hW => ⟨rfl, xB_at hPc hK hDc hq U hU hW⟩⟩ rfl rfl hl.1 rfl (lv_room (Nat.le_of_ble_eq_true rfl)) d_Program_allowed_52 ⟨Nat.le_of_ble_eq_true rfl, Nat.le_of_ble_eq_true rfl⟩) ?_
      refine lv_topi (fun z5 hz5 => ?_)
      refine lv_if_eq (tgt := 62) hx hb d_Program_allowed_55 rfl (fun h7 => ?_) (fun h7 => ?_)
      · refine lv_iconst (v := 0) hx hb d_Program_allowed_62 (by decide) ?_
        exact W.zret (ty := .boolean) hx hb hr rfl (fun t ht hW => ⟨(by rw [F_Program_allowed, if_pos h1, ← hz2, F_Program_allowed_k3, if_neg h4, ← hz5, F_Program_allowed_k6, if_pos h7]), ht⟩) (fun _ h => absurd h List.not_mem_nil) d_Program_allowed_63
      · refine lv_iconst (v := 1) hx hb d_Program_allowed_58 (by decide) ?_
        refine lv_goto (tgt := 63) hx hb d_Program_allowed_59 rfl ?_
        exact W.zret (ty := .boolean) hx hb hr rfl (fun t ht hW => ⟨(by rw [F_Program_allowed, if_pos h1, ← hz2, F_Program_allowed_k3, if_neg h4, ← hz5, F_Program_allowed_k6, if_neg h7]), ht⟩) (fun _ h => absurd h List.not_mem_nil) d_Program_allowed_63
  by_cases h8 : a1 = 1
  · refine lv_tableIn (off := 63) (tgt := 64) hx hb d_Program_allowed_1 (by rw [h8]; decide) (by rw [h8]; decide) (by rw [h8]; decide) rfl ?_
    refine lv_iload_n hx hb d_Program_allowed_64 rfl (lv_at hl 1 rfl) ?_
    refine lv_iconst (v := 1) hx hb d_Program_allowed_65 (by decide) ?_
    refine lv_ldc (v := 100000) hx hb hown (htt _ tw_465) d_Program_allowed_66 ?_
    have hPc := hP.sub (ws' := []) [] rfl
    have hDc := hD.sub (ws' := []) [] (by decide) rfl
    refine xk_p (va_runSN (As := [.int a2, .int 1, .int 100000]) (rest := []) ⟨hx, hb, hml, hown, hts⟩ (c_U_within l dC dI Z A _ M a2 1 100000) ⟨va_cnB 3 hts (xw_call _ tw_327) rfl rfl rfl (hq.1 ("CentrifugeUnit$Program", 19, y_U_within, "CentrifugeUnit") (by decide +kernel)) (htt _ tw_1) (by decide +kernel) ⟨Nat.le_of_ble_eq_true rfl, Nat.le_of_ble_eq_true rfl⟩, htt _ tw_326, trivial⟩ ⟨xB_blind, fun U hU hW => ⟨rfl, xB_at hPc hK hDc hq U hU hW⟩⟩ rfl rfl hl.1 rfl (lv_room (Nat.le_of_ble_eq_true rfl)) d_Program_allowed_68 ⟨Nat.le_of_ble_eq_true rfl, Nat.le_of_ble_eq_true rfl⟩) ?_
    refine lv_topi (fun z9 hz9 => ?_)
    exact W.zret (ty := .boolean) hx hb hr (xz_nar (by rw [hz9]; exact f01_U_within M a2 1 100000)) (fun t ht hW => ⟨(by rw [F_Program_allowed, if_neg h1, if_pos h8, ← hz9, F_Program_allowed_k10]), ht⟩) (fun _ h => absurd h List.not_mem_nil) d_Program_allowed_71
  by_cases h11 : a1 = 2
  · refine lv_tableIn (off := 71) (tgt := 72) hx hb d_Program_allowed_1 (by rw [h11]; decide) (by rw [h11]; decide) (by rw [h11]; decide) rfl ?_
    refine lv_iload_n hx hb d_Program_allowed_72 rfl (lv_at hl 1 rfl) ?_
    refine lv_iconst (v := 1) hx hb d_Program_allowed_73 (by decide) ?_
    refine lv_ldc (v := 1000000) hx hb hown (htt _ tw_466) d_Program_allowed_74 ?_
    have hPc := hP.sub (ws' := []) [] rfl
    have hDc := hD.sub (ws' := []) [] (by decide) rfl
    refine xk_p (va_runSN (As := [.int a2, .int 1, .int 1000000]) (rest := []) ⟨hx, hb, hml, hown, hts⟩ (c_U_within l dC dI Z A _ M a2 1 1000000) ⟨va_cnB 3 hts (xw_call _ tw_327) rfl rfl rfl (hq.1 ("CentrifugeUnit$Program", 19, y_U_within, "CentrifugeUnit") (by decide +kernel)) (htt _ tw_1) (by decide +kernel) ⟨Nat.le_of_ble_eq_true rfl, Nat.le_of_ble_eq_true rfl⟩, htt _ tw_326, trivial⟩ ⟨xB_blind, fun U hU hW => ⟨rfl, xB_at hPc hK hDc hq U hU hW⟩⟩ rfl rfl hl.1 rfl (lv_room (Nat.le_of_ble_eq_true rfl)) d_Program_allowed_76 ⟨Nat.le_of_ble_eq_true rfl, Nat.le_of_ble_eq_true rfl⟩) ?_
    refine lv_topi (fun z12 hz12 => ?_)
    exact W.zret (ty := .boolean) hx hb hr (xz_nar (by rw [hz12]; exact f01_U_within M a2 1 1000000)) (fun t ht hW => ⟨(by rw [F_Program_allowed, if_neg h1, if_neg h8, if_pos h11, ← hz12, F_Program_allowed_k13]), ht⟩) (fun _ h => absurd h List.not_mem_nil) d_Program_allowed_79
  by_cases h14 : a1 = 3
  · refine lv_tableIn (off := 79) (tgt := 80) hx hb d_Program_allowed_1 (by rw [h14]; decide) (by rw [h14]; decide) (by rw [h14]; decide) rfl ?_
    refine lv_iload_n hx hb d_Program_allowed_80 rfl (lv_at hl 1 rfl) ?_
    refine lv_iconst (v := 0) hx hb d_Program_allowed_81 (by decide) ?_
    refine lv_sipush (v := 20000) hx hb d_Program_allowed_82 (by decide) ?_
    have hPc := hP.sub (ws' := []) [] rfl
    have hDc := hD.sub (ws' := []) [] (by decide) rfl
    refine xk_p (va_runSN (As := [.int a2, .int 0, .int 20000]) (rest := []) ⟨hx, hb, hml, hown, hts⟩ (c_U_within l dC dI Z A _ M a2 0 20000) ⟨va_cnB 3 hts (xw_call _ tw_327) rfl rfl rfl (hq.1 ("CentrifugeUnit$Program", 19, y_U_within, "CentrifugeUnit") (by decide +kernel)) (htt _ tw_1) (by decide +kernel) ⟨Nat.le_of_ble_eq_true rfl, Nat.le_of_ble_eq_true rfl⟩, htt _ tw_326, trivial⟩ ⟨xB_blind, fun U hU hW => ⟨rfl, xB_at hPc hK hDc hq U hU hW⟩⟩ rfl rfl hl.1 rfl (lv_room (Nat.le_of_ble_eq_true rfl)) d_Program_allowed_85 ⟨Nat.le_of_ble_eq_true rfl, Nat.le_of_ble_eq_true rfl⟩) ?_
    refine lv_topi (fun z15 hz15 => ?_)
    refine lv_if_eq (tgt := 105) hx hb d_Program_allowed_88 rfl (fun h17 => ?_) (fun h17 => ?_)
    · refine lv_iconst (v := 0) hx hb d_Program_allowed_105 (by decide) ?_
      exact W.zret (ty := .boolean) hx hb hr rfl (fun t ht hW => ⟨(by rw [F_Program_allowed, if_neg h1, if_neg h8, if_neg h11, if_pos h14, ← hz15, F_Program_allowed_k16, if_pos h17]), ht⟩) (fun _ h => absurd h List.not_mem_nil) d_Program_allowed_106
    · refine lv_iload_n hx hb d_Program_allowed_91 rfl (lv_at hl 2 rfl) ?_
      refine lv_iconst (v := 1) hx hb d_Program_allowed_92 (by decide) ?_
      refine lv_bipush (v := 9) hx hb d_Program_allowed_93 (by decide) ?_
      have hPc := hP.sub (ws' := []) [] rfl
      have hDc := hD.sub (ws' := []) [] (by decide) rfl
      refine xk_p (va_runSN (As := [.int a3, .int 1, .int 9]) (rest := []) ⟨hx, hb, hml, hown, hts⟩ (c_U_within l dC dI Z A _ M a3 1 9) ⟨va_cnB 3 hts (xw_call _ tw_327) rfl rfl rfl (hq.1 ("CentrifugeUnit$Program", 19, y_U_within, "CentrifugeUnit") (by decide +kernel)) (htt _ tw_1) (by decide +kernel) ⟨Nat.le_of_ble_eq_true rfl, Nat.le_of_ble_eq_true rfl⟩, htt _ tw_326, trivial⟩ ⟨xB_blind, fun U hU hW => ⟨rfl, xB_at hPc hK hDc hq U hU hW⟩⟩ rfl rfl hl.1 rfl (lv_room (Nat.le_of_ble_eq_true rfl)) d_Program_allowed_95 ⟨Nat.le_of_ble_eq_true rfl, Nat.le_of_ble_eq_true rfl⟩) ?_
      refine lv_topi (fun z18 hz18 => ?_)
      refine lv_if_eq (tgt := 105) hx hb d_Program_allowed_98 rfl (fun h20 => ?_) (fun h20 => ?_)
      · refine lv_iconst (v := 0) hx hb d_Program_allowed_105 (by decide) ?_
        exact W.zret (ty := .boolean) hx hb hr rfl (fun t ht hW => ⟨(by rw [F_Program_allowed, if_neg h1, if_neg h8, if_neg h11, if_pos h14, ← hz15, F_Program_allowed_k16, if_neg h17, ← hz18, F_Program_allowed_k19, if_pos h20]), ht⟩) (fun _ h => absurd h List.not_mem_nil) d_Program_allowed_106
      · refine lv_iconst (v := 1) hx hb d_Program_allowed_101 (by decide) ?_
        refine lv_goto (tgt := 106) hx hb d_Program_allowed_102 rfl ?_
        exact W.zret (ty := .boolean) hx hb hr rfl (fun t ht hW => ⟨(by rw [F_Program_allowed, if_neg h1, if_neg h8, if_neg h11, if_pos h14, ← hz15, F_Program_allowed_k16, if_neg h17, ← hz18, F_Program_allowed_k19, if_neg h20]), ht⟩) (fun _ h => absurd h List.not_mem_nil) d_Program_allowed_106
  by_cases h21 : a1 = 4
  · refine lv_tableIn (off := 106) (tgt := 107) hx hb d_Program_allowed_1 (by rw [h21]; decide) (by rw [h21]; decide) (by rw [h21]; decide) rfl ?_
    refine lv_iload_n hx hb d_Program_allowed_107 rfl (lv_at hl 1 rfl) ?_
    refine lv_sipush (v := (-2000)) hx hb d_Program_allowed_108 (by decide) ?_
    refine lv_sipush (v := 4000) hx hb d_Program_allowed_111 (by decide) ?_
    have hPc := hP.sub (ws' := []) [] rfl
    have hDc := hD.sub (ws' := []) [] (by decide) rfl
    refine xk_p (va_runSN (As := [.int a2, .int (-2000), .int 4000]) (rest := []) ⟨hx, hb, hml, hown, hts⟩ (c_U_within l dC dI Z A _ M a2 (-2000) 4000) ⟨va_cnB 3 hts (xw_call _ tw_327) rfl rfl rfl (hq.1 ("CentrifugeUnit$Program", 19, y_U_within, "CentrifugeUnit") (by decide +kernel)) (htt _ tw_1) (by decide +kernel) ⟨Nat.le_of_ble_eq_true rfl, Nat.le_of_ble_eq_true rfl⟩, htt _ tw_326, trivial⟩ ⟨xB_blind, fun U hU hW => ⟨rfl, xB_at hPc hK hDc hq U hU hW⟩⟩ rfl rfl hl.1 rfl (lv_room (Nat.le_of_ble_eq_true rfl)) d_Program_allowed_114 ⟨Nat.le_of_ble_eq_true rfl, Nat.le_of_ble_eq_true rfl⟩) ?_
    refine lv_topi (fun z22 hz22 => ?_)
    exact W.zret (ty := .boolean) hx hb hr (xz_nar (by rw [hz22]; exact f01_U_within M a2 (-2000) 4000)) (fun t ht hW => ⟨(by rw [F_Program_allowed, if_neg h1, if_neg h8, if_neg h11, if_neg h14, if_pos h21, ← hz22, F_Program_allowed_k23]), ht⟩) (fun _ h => absurd h List.not_mem_nil) d_Program_allowed_117
  refine lv_tableOut (tgt := 118) hx hb d_Program_allowed_1 (by have q0 := lv_neT (a := 0) h1 (by decide); have q1 := lv_neT (a := 1) h8 (by decide); have q2 := lv_neT (a := 2) h11 (by decide); have q3 := lv_neT (a := 3) h14 (by decide); have q4 := lv_neT (a := 4) h21 (by decide); omega) rfl ?_
  refine lv_iconst (v := 0) hx hb d_Program_allowed_118 (by decide) ?_
  exact W.zret (ty := .boolean) hx hb hr rfl (fun t ht hW => ⟨(by rw [F_Program_allowed, if_neg h1, if_neg h8, if_neg h11, if_neg h14, if_neg h21]), ht⟩) (fun _ h => absurd h List.not_mem_nil) d_Program_allowed_119
abbrev bc_Program_full : ByteArray := prog_5_method_3_code
def y_Program_full : MethodName := ⟨"CentrifugeUnit$Program", "full", "()Z"⟩
theorem d_Program_full_0 : decode bc_Program_full 0 = .ok (.aload_n 0, 1) := by decide +kernel
theorem d_Program_full_1 : decode bc_Program_full 1 = .ok (.getfield 27, 3) := by decide +kernel
theorem d_Program_full_4 : decode bc_Program_full 4 = .ok (.bipush 12, 2) := by decide +kernel
theorem d_Program_full_6 : decode bc_Program_full 6 = .ok (.if_icmp .lt 7, 3) := by decide +kernel
theorem d_Program_full_9 : decode bc_Program_full 9 = .ok (.iconst 1, 1) := by decide +kernel
theorem d_Program_full_10 : decode bc_Program_full 10 = .ok (.goto 4, 3) := by decide +kernel
theorem d_Program_full_13 : decode bc_Program_full 13 = .ok (.iconst 0, 1) := by decide +kernel
theorem d_Program_full_14 : decode bc_Program_full 14 = .ok (.ireturn, 1) := by decide +kernel
def F_Program_full (M : XM) : Int32 := (if (M.1 1) < 12 then 0 else 1)
theorem f01_Program_full (M : XM) : F_Program_full M = 0 ∨ F_Program_full M = 1 := by
  simp only [F_Program_full]; repeat' split
  all_goals first | exact Or.inl rfl | exact Or.inr rfl | simp
set_option maxHeartbeats 4000000 in
set_option maxRecDepth 100000 in
theorem c_Program_full (l : Launch) (dC : Nat → ClassId) (dI : Nat → Nat → Nat) (Z : Nat → ClassId) (A : Nat → Nat) (sz : Nat) (M : XM) : Met l y_Program_full (.code y_Program_full bc_Program_full 1 (some .boolean) :: xw) ({ frames := 0, cells := 0, slots := 0, locals := 0 }) (va_Pc [.ref (A 6)] (xB (dC, dI) xcl (xty Z) sz [(A 6, xc6 Z A M)])) (k2_QcV (.int (F_Program_full M))) 0 0 (fun _ => False) := by
  refine Met.ofW (cc := bc_Program_full) (maxL := 1) (ret := (some .boolean)) (by decide) rfl ?_
  intro p e s m args below meth c s₁ B hml hv
  obtain ⟨rfl, hsz, hP, hK, hD0, hq⟩ := hv
  have hx := B.exec
  have hb := B.bytes
  have hr := B.returns
  have hts := atoms_spec (ws := (.code y_Program_full bc_Program_full 1 (some .boolean) :: xw)) B.pre
  have htt : ∀ w ∈ xw, w.before _ s = true := fun w h => hts w (List.mem_cons_of_mem _ h)
  have hown : s.vm.findClass "CentrifugeUnit$Program" = some m.cls := findClass_of_methodNamed B.named
  have hlocks := B.notSynchronized
  subst hsz
  have hD : va_D (fun _ => True) [(A 6, .inr (3, [.ref (A 7), .ref (A 8), .ref (A 9), .int (M.1 1)]))] := hD0
  have hP : va_P (dC, dI) xcl [(A 6, .inr (3, [.ref (A 7), .ref (A 8), .ref (A 9), .int (M.1 1)]))] s.heap := hP
  have hl := lv_entry ([.ref (A 6)]) (n := 1) (Nat.le_of_ble_eq_true rfl)
  rw [lg_entry_eq]
  generalize (lg_sl ([.ref (A 6)]) ++ List.replicate (1 - (lg_sl ([.ref (A 6)])).length) Slot.unset).toArray = ls at hl ⊢
  have hl : lv_has ls 1 [(0, .ref (A 6))] := hl
  refine lv_aload_n hx hb d_Program_full_0 rfl (lv_at hl 0 rfl) ?_
  refine va_get (D := (dC, dI)) (ci := 3) (v := .int (M.1 1)) (C := "CentrifugeUnit$Program") (T := xF3) (N := 4) hx hb htt xin3 hown hK hP 0 rfl rfl 3 (by decide) (htt _ tw_67) (fun _ h9 => h9) rfl d_Program_full_1 ?_
  refine lv_bipush (v := 12) hx hb d_Program_full_4 (by decide) ?_
  refine lv_icmp_lt (tgt := 13) hx hb d_Program_full_6 rfl (fun h1 => ?_) (fun h1 => ?_)
  · refine lv_iconst (v := 0) hx hb d_Program_full_13 (by decide) ?_
    exact W.zret (ty := .boolean) hx hb hr rfl (fun t ht hW => ⟨(by rw [F_Program_full, if_pos h1]), ht⟩) (fun _ h => absurd h List.not_mem_nil) d_Program_full_14
  · refine lv_iconst (v := 1) hx hb d_Program_full_9 (by decide) ?_
    refine lv_goto (tgt := 14) hx hb d_Program_full_10 rfl ?_
    exact W.zret (ty := .boolean) hx hb hr rfl (fun t ht hW => ⟨(by rw [F_Program_full, if_neg h1]), ht⟩) (fun _ h => absurd h List.not_mem_nil) d_Program_full_14
abbrev bc_Program_has : ByteArray := prog_5_method_5_code
def y_Program_has : MethodName := ⟨"CentrifugeUnit$Program", "has", "(I)Z"⟩
theorem d_Program_has_0 : decode bc_Program_has 0 = .ok (.iload_n 1, 1) := by decide +kernel
theorem d_Program_has_1 : decode bc_Program_has 1 = .ok (.ifCond .lt 15, 3) := by decide +kernel
theorem d_Program_has_4 : decode bc_Program_has 4 = .ok (.iload_n 1, 1) := by decide +kernel
theorem d_Program_has_5 : decode bc_Program_has 5 = .ok (.aload_n 0, 1) := by decide +kernel
theorem d_Program_has_6 : decode bc_Program_has 6 = .ok (.getfield 27, 3) := by decide +kernel
theorem d_Program_has_9 : decode bc_Program_has 9 = .ok (.if_icmp .ge 7, 3) := by decide +kernel
theorem d_Program_has_12 : decode bc_Program_has 12 = .ok (.iconst 1, 1) := by decide +kernel
theorem d_Program_has_13 : decode bc_Program_has 13 = .ok (.goto 4, 3) := by decide +kernel
theorem d_Program_has_16 : decode bc_Program_has 16 = .ok (.iconst 0, 1) := by decide +kernel
theorem d_Program_has_17 : decode bc_Program_has 17 = .ok (.ireturn, 1) := by decide +kernel
def F_Program_has (M : XM) (a1 : Int32) : Int32 := (if a1 < 0 then 0 else (if (M.1 1) ≤ a1 then 0 else 1))
theorem f01_Program_has (M : XM) (a1 : Int32) : F_Program_has M a1 = 0 ∨ F_Program_has M a1 = 1 := by
  simp only [F_Program_has]; repeat' split
  all_goals first | exact Or.inl rfl | exact Or.inr rfl | simp
set_option maxHeartbeats 4000000 in
set_option maxRecDepth 100000 in
theorem c_Program_has (l : Launch) (dC : Nat → ClassId) (dI : Nat → Nat → Nat) (Z : Nat → ClassId) (A : Nat → Nat) (sz : Nat) (M : XM) (a1 : Int32) : Met l y_Program_has (.code y_Program_has bc_Program_has 2 (some .boolean) :: xw) ({ frames := 0, cells := 0, slots := 0, locals := 0 }) (va_Pc [.ref (A 6), .int a1] (xB (dC, dI) xcl (xty Z) sz [(A 6, xc6 Z A M)])) (k2_QcV (.int (F_Program_has M a1))) 0 0 (fun _ => False) := by
  refine Met.ofW (cc := bc_Program_has) (maxL := 2) (ret := (some .boolean)) (by decide) rfl ?_
  intro p e s m args below meth c s₁ B hml hv
  obtain ⟨rfl, hsz, hP, hK, hD0, hq⟩ := hv
  have hx := B.exec
  have hb := B.bytes
  have hr := B.returns
  have hts := atoms_spec (ws := (.code y_Program_has bc_Program_has 2 (some .boolean) :: xw)) B.pre
  have htt : ∀ w ∈ xw, w.before _ s = true := fun w h => hts w (List.mem_cons_of_mem _ h)
  have hown : s.vm.findClass "CentrifugeUnit$Program" = some m.cls := findClass_of_methodNamed B.named
  have hlocks := B.notSynchronized
  subst hsz
  have hD : va_D (fun _ => True) [(A 6, .inr (3, [.ref (A 7), .ref (A 8), .ref (A 9), .int (M.1 1)]))] := hD0
  have hP : va_P (dC, dI) xcl [(A 6, .inr (3, [.ref (A 7), .ref (A 8), .ref (A 9), .int (M.1 1)]))] s.heap := hP
  have hl := lv_entry ([.ref (A 6), .int a1]) (n := 2) (Nat.le_of_ble_eq_true rfl)
  rw [lg_entry_eq]
  generalize (lg_sl ([.ref (A 6), .int a1]) ++ List.replicate (2 - (lg_sl ([.ref (A 6), .int a1])).length) Slot.unset).toArray = ls at hl ⊢
  have hl : lv_has ls 2 [(0, .ref (A 6)), (1, .int a1)] := hl
  refine lv_iload_n hx hb d_Program_has_0 rfl (lv_at hl 1 rfl) ?_
  refine lv_if_lt (tgt := 16) hx hb d_Program_has_1 rfl (fun h1 => ?_) (fun h1 => ?_)
  · refine lv_iconst (v := 0) hx hb d_Program_has_16 (by decide) ?_
    exact W.zret (ty := .boolean) hx hb hr rfl (fun t ht hW => ⟨(by rw [F_Program_has, if_pos h1]), ht⟩) (fun _ h => absurd h List.not_mem_nil) d_Program_has_17
  · refine lv_iload_n hx hb d_Program_has_4 rfl (lv_at hl 1 rfl) ?_
    refine lv_aload_n hx hb d_Program_has_5 rfl (lv_at hl 0 rfl) ?_
    refine va_get (D := (dC, dI)) (ci := 3) (v := .int (M.1 1)) (C := "CentrifugeUnit$Program") (T := xF3) (N := 4) hx hb htt xin3 hown hK hP 0 rfl rfl 3 (by decide) (htt _ tw_67) (fun _ h9 => h9) rfl d_Program_has_6 ?_
    refine lv_icmp_ge (tgt := 16) hx hb d_Program_has_9 rfl (fun h2 => ?_) (fun h2 => ?_)
    · refine lv_iconst (v := 0) hx hb d_Program_has_16 (by decide) ?_
      exact W.zret (ty := .boolean) hx hb hr rfl (fun t ht hW => ⟨(by rw [F_Program_has, if_neg h1, if_pos h2]), ht⟩) (fun _ h => absurd h List.not_mem_nil) d_Program_has_17
    · refine lv_iconst (v := 1) hx hb d_Program_has_12 (by decide) ?_
      refine lv_goto (tgt := 17) hx hb d_Program_has_13 rfl ?_
      exact W.zret (ty := .boolean) hx hb hr rfl (fun t ht hW => ⟨(by rw [F_Program_has, if_neg h1, if_neg h2]), ht⟩) (fun _ h => absurd h List.not_mem_nil) d_Program_has_17
theorem xfull {M : XM} {z : Int32} (h : z = 0) (hz : z = F_Program_full M) (hc : 0 ≤ (M.1 1)) : vp_in (M.1 1) 12 := by
  rw [hz, F_Program_full] at h
  rw [Int32.le_iff_toInt_le] at hc
  split at h
  · rename_i h1
    rw [Int32.lt_iff_toInt_lt] at h1
    refine xin_of ?_ ?_ <;> simp at h1 hc ⊢ <;> omega
  · exact absurd h (by decide)
abbrev bc_Program_add : ByteArray := prog_5_method_4_code
def y_Program_add : MethodName := ⟨"CentrifugeUnit$Program", "add", "(III)V"⟩
theorem d_Program_add_0 : decode bc_Program_add 0 = .ok (.aload_n 0, 1) := by decide +kernel
theorem d_Program_add_1 : decode bc_Program_add 1 = .ok (.invokevirtual 31, 3) := by decide +kernel
theorem d_Program_add_4 : decode bc_Program_add 4 = .ok (.ifCond .eq 4, 3) := by decide +kernel
theorem d_Program_add_7 : decode bc_Program_add 7 = .ok (.return_, 1) := by decide +kernel
theorem d_Program_add_8 : decode bc_Program_add 8 = .ok (.aload_n 0, 1) := by decide +kernel
theorem d_Program_add_9 : decode bc_Program_add 9 = .ok (.getfield 9, 3) := by decide +kernel
theorem d_Program_add_12 : decode bc_Program_add 12 = .ok (.aload_n 0, 1) := by decide +kernel
theorem d_Program_add_13 : decode bc_Program_add 13 = .ok (.getfield 27, 3) := by decide +kernel
theorem d_Program_add_16 : decode bc_Program_add 16 = .ok (.iload_n 1, 1) := by decide +kernel
theorem d_Program_add_17 : decode bc_Program_add 17 = .ok (.iastore, 1) := by decide +kernel
theorem d_Program_add_18 : decode bc_Program_add 18 = .ok (.aload_n 0, 1) := by decide +kernel
theorem d_Program_add_19 : decode bc_Program_add 19 = .ok (.getfield 13, 3) := by decide +kernel
theorem d_Program_add_22 : decode bc_Program_add 22 = .ok (.aload_n 0, 1) := by decide +kernel
theorem d_Program_add_23 : decode bc_Program_add 23 = .ok (.getfield 27, 3) := by decide +kernel
theorem d_Program_add_26 : decode bc_Program_add 26 = .ok (.iload_n 2, 1) := by decide +kernel
theorem d_Program_add_27 : decode bc_Program_add 27 = .ok (.iastore, 1) := by decide +kernel
theorem d_Program_add_28 : decode bc_Program_add 28 = .ok (.aload_n 0, 1) := by decide +kernel
theorem d_Program_add_29 : decode bc_Program_add 29 = .ok (.getfield 16, 3) := by decide +kernel
theorem d_Program_add_32 : decode bc_Program_add 32 = .ok (.aload_n 0, 1) := by decide +kernel
theorem d_Program_add_33 : decode bc_Program_add 33 = .ok (.getfield 27, 3) := by decide +kernel
theorem d_Program_add_36 : decode bc_Program_add 36 = .ok (.iload_n 3, 1) := by decide +kernel
theorem d_Program_add_37 : decode bc_Program_add 37 = .ok (.iastore, 1) := by decide +kernel
theorem d_Program_add_38 : decode bc_Program_add 38 = .ok (.aload_n 0, 1) := by decide +kernel
theorem d_Program_add_39 : decode bc_Program_add 39 = .ok (.dup, 1) := by decide +kernel
theorem d_Program_add_40 : decode bc_Program_add 40 = .ok (.getfield 27, 3) := by decide +kernel
theorem d_Program_add_43 : decode bc_Program_add 43 = .ok (.iconst 1, 1) := by decide +kernel
theorem d_Program_add_44 : decode bc_Program_add 44 = .ok (.iadd, 1) := by decide +kernel
theorem d_Program_add_45 : decode bc_Program_add 45 = .ok (.putfield 27, 3) := by decide +kernel
theorem d_Program_add_48 : decode bc_Program_add 48 = .ok (.return_, 1) := by decide +kernel
abbrev ap_Program_add (M : XM) (u : ((Nat → Int32) × (Nat → Int32) × (Nat → Int32) × Int32)) : XM := ((va_up M.1 1 (u.2.2.2)), M.2.1, (va_up (va_up (va_up M.2.2.1 7 (u.1)) 8 (u.2.1)) 9 (u.2.2.1)), M.2.2.2)
def F_Program_add_k2 (M : XM) (a1 : Int32) (a2 : Int32) (a3 : Int32) (z1 : Int32) : ((Nat → Int32) × (Nat → Int32) × (Nat → Int32) × Int32) := (if z1 = 0 then ((upd (M.2.2.1 7) ((M.1 1)).toNatClampNeg a1), (upd (M.2.2.1 8) ((M.1 1)).toNatClampNeg a2), (upd (M.2.2.1 9) ((M.1 1)).toNatClampNeg a3), ((M.1 1) + 1)) else ((M.2.2.1 7), (M.2.2.1 8), (M.2.2.1 9), (M.1 1)))
def F_Program_add (M : XM) (a1 : Int32) (a2 : Int32) (a3 : Int32) : ((Nat → Int32) × (Nat → Int32) × (Nat → Int32) × Int32) := (F_Program_add_k2 M a1 a2 a3 (F_Program_full M))
set_option maxHeartbeats 4000000 in
set_option maxRecDepth 100000 in
theorem c_Program_add (l : Launch) (dC : Nat → ClassId) (dI : Nat → Nat → Nat) (Z : Nat → ClassId) (A : Nat → Nat) (sz : Nat) (M : XM) (a1 : Int32) (a2 : Int32) (a3 : Int32) (hc : 0 ≤ (M.1 1)) : Met l y_Program_add (.code y_Program_add bc_Program_add 4 none :: xw) ({ frames := 1, cells := 0, slots := 0, locals := 20 }) (va_Pc [.ref (A 6), .int a1, .int a2, .int a3] (xB (dC, dI) xcl (xty Z) sz [(A 6, xc6 Z A M), (A 7, xc7 Z A M), (A 8, xc8 Z A M), (A 9, xc9 Z A M)])) (va_Qv (fun u : ((Nat → Int32) × (Nat → Int32) × (Nat → Int32) × Int32) => u = F_Program_add M a1 a2 a3) (fun u => xE (dC, dI) xcl (xty Z) (va_A [(A 6, xc6 Z A M), (A 7, xc7 Z A M), (A 8, xc8 Z A M), (A 9, xc9 Z A M)] sz) [(A 6, xc6 Z A (ap_Program_add M u)), (A 7, xc7 Z A (ap_Program_add M u)), (A 8, xc8 Z A (ap_Program_add M u)), (A 9, xc9 Z A (ap_Program_add M u))]) (va_A [(A 6, xc6 Z A M), (A 7, xc7 Z A M), (A 8, xc8 Z A M), (A 9, xc9 Z A M)] sz)) 0 0 (va_A [(A 6, xc6 Z A M), (A 7, xc7 Z A M), (A 8, xc8 Z A M), (A 9, xc9 Z A M)] sz) := by
  refine Met.ofW (cc := bc_Program_add) (maxL := 4) (ret := none) (by decide) rfl ?_
  intro p e s m args below meth c s₁ B hml hv
  obtain ⟨rfl, hsz, hP, hK, hD0, hq⟩ := hv
  have hx := B.exec
  have hb := B.bytes
  have hr := B.returns
  have hts := atoms_spec (ws := (.code y_Program_add bc_Program_add 4 none :: xw)) B.pre
  have htt : ∀ w ∈ xw, w.before _ s = true := fun w h => hts w (List.mem_cons_of_mem _ h)
  have hown : s.vm.findClass "CentrifugeUnit$Program" = some m.cls := findClass_of_methodNamed B.named
  have hlocks := B.notSynchronized
  subst hsz
  have hD := hD0.self (sz := s.heap.size)
  generalize hAe : va_A [(A 6, xc6 Z A M), (A 7, xc7 Z A M), (A 8, xc8 Z A M), (A 9, xc9 Z A M)] s.heap.size = AA at hD ⊢
  have hA : ∀ q : Nat, s.heap.size ≤ q → AA q := fun q h => by rw [← hAe]; exact Or.inr h
  have hS : va_S AA s.heap s.heap [] := va_S.rf
  have hP : va_P (dC, dI) xcl [(A 6, .inr (3, [.ref (A 7), .ref (A 8), .ref (A 9), .int (M.1 1)])), (A 7, .inl (Z 0, 12, .inl (M.2.2.1 7))), (A 8, .inl (Z 0, 12, .inl (M.2.2.1 8))), (A 9, .inl (Z 0, 12, .inl (M.2.2.1 9)))] s.heap := hP
  have hD : va_D AA [(A 6, .inr (3, [.ref (A 7), .ref (A 8), .ref (A 9), .int (M.1 1)])), (A 7, .inl (Z 0, 12, .inl (M.2.2.1 7))), (A 8, .inl (Z 0, 12, .inl (M.2.2.1 8))), (A 9, .inl (Z 0, 12, .inl (M.2.2.1 9)))] := hD
  have hl := lv_entry ([.ref (A 6), .int a1, .int a2, .int a3]) (n := 4) (Nat.le_of_ble_eq_true rfl)
  rw [lg_entry_eq]
  generalize (lg_sl ([.ref (A 6), .int a1, .int a2, .int a3]) ++ List.replicate (4 - (lg_sl ([.ref (A 6), .int a1, .int a2, .int a3])).length) Slot.unset).toArray = ls at hl ⊢
  have hl : lv_has ls 4 [(0, .ref (A 6)), (1, .int a1), (2, .int a2), (3, .int a3)] := hl
  refine lv_aload_n hx hb d_Program_add_0 rfl (lv_at hl 0 rfl) ?_
  have hPc := hP.sub (ws' := [(A 6, xc6 Z A M)]) [0] rfl
  have hDc := hD.sub (ws' := [(A 6, xc6 Z A M)]) [0] (by decide) rfl
  refine xk_p (va_runV (As := []) (rest := []) ⟨hx, hb, hml, hown, hts⟩ (c_Program_full l dC dI Z A _ M) (cwV 0 hts (xw_V _ tw_477 tw_469 tw_470 tw_4 tw_471) rfl rfl rfl (by decide +kernel) ⟨Nat.le_of_ble_eq_true rfl, Nat.le_of_ble_eq_true rfl⟩) ⟨xB_blind, va_recv (q0 := 0) (ci := 3) hK hP rfl rfl, fun U hU hW => ⟨rfl, xB_at hPc hK hDc hq U hU hW⟩⟩ rfl rfl hl.1 rfl (lv_room (Nat.le_of_ble_eq_true rfl)) d_Program_add_1 ⟨Nat.le_of_ble_eq_true rfl, Nat.le_of_ble_eq_true rfl⟩) ?_
  refine lv_topi (fun z1 hz1 => ?_)
  refine lv_if_eq (tgt := 8) hx hb d_Program_add_4 rfl (fun h3 => ?_) (fun h3 => ?_)
  · refine lv_aload_n hx hb d_Program_add_8 rfl (lv_at hl 0 rfl) ?_
    refine va_get (D := (dC, dI)) (ci := 3) (v := .ref (A 7)) (C := "CentrifugeUnit$Program") (T := xF3) (N := 4) hx hb htt xin3 hown hK hP 0 rfl rfl 0 (by decide) (htt _ tw_61) (fun _ h9 => h9) rfl d_Program_add_9 ?_
    refine lv_aload_n hx hb d_Program_add_12 rfl (lv_at hl 0 rfl) ?_
    refine va_get (D := (dC, dI)) (ci := 3) (v := .int (M.1 1)) (C := "CentrifugeUnit$Program") (T := xF3) (N := 4) hx hb htt xin3 hown hK hP 0 rfl rfl 3 (by decide) (htt _ tw_67) (fun _ h9 => h9) rfl d_Program_add_13 ?_
    refine lv_iload_n hx hb d_Program_add_16 rfl (lv_at hl 1 rfl) ?_
    refine va_iast (D := (dC, dI)) hx hb hK hP hD hS 1 0 rfl rfl (xfull h3 hz1 hc) d_Program_add_17 (fun H locs hP hD hS => ?_)
    have hP : va_P (dC, dI) xcl [(A 6, .inr (3, [.ref (A 7), .ref (A 8), .ref (A 9), .int (M.1 1)])), (A 7, .inl (Z 0, 12, .inl (upd (M.2.2.1 7) ((M.1 1)).toNatClampNeg a1))), (A 8, .inl (Z 0, 12, .inl (M.2.2.1 8))), (A 9, .inl (Z 0, 12, .inl (M.2.2.1 9)))] H := hP
    have hD : va_D AA [(A 6, .inr (3, [.ref (A 7), .ref (A 8), .ref (A 9), .int (M.1 1)])), (A 7, .inl (Z 0, 12, .inl (upd (M.2.2.1 7) ((M.1 1)).toNatClampNeg a1))), (A 8, .inl (Z 0, 12, .inl (M.2.2.1 8))), (A 9, .inl (Z 0, 12, .inl (M.2.2.1 9)))] := hD
    refine lv_aload_n hx hb d_Program_add_18 rfl (lv_at hl 0 rfl) ?_
    refine va_get (D := (dC, dI)) (ci := 3) (v := .ref (A 8)) (C := "CentrifugeUnit$Program") (T := xF3) (N := 4) hx hb htt xin3 hown hK hP 0 rfl rfl 1 (by decide) (htt _ tw_63) (fun _ h9 => h9) rfl d_Program_add_19 ?_
    refine lv_aload_n hx hb d_Program_add_22 rfl (lv_at hl 0 rfl) ?_
    refine va_get (D := (dC, dI)) (ci := 3) (v := .int (M.1 1)) (C := "CentrifugeUnit$Program") (T := xF3) (N := 4) hx hb htt xin3 hown hK hP 0 rfl rfl 3 (by decide) (htt _ tw_67) (fun _ h9 => h9) rfl d_Program_add_23 ?_
    refine lv_iload_n hx hb d_Program_add_26 rfl (lv_at hl 2 rfl) ?_
    refine va_iast (D := (dC, dI)) hx hb hK hP hD hS 2 0 rfl rfl (xfull h3 hz1 hc) d_Program_add_27 (fun H locs hP hD hS => ?_)
    have hP : va_P (dC, dI) xcl [(A 6, .inr (3, [.ref (A 7), .ref (A 8), .ref (A 9), .int (M.1 1)])), (A 7, .inl (Z 0, 12, .inl (upd (M.2.2.1 7) ((M.1 1)).toNatClampNeg a1))), (A 8, .inl (Z 0, 12, .inl (upd (M.2.2.1 8) ((M.1 1)).toNatClampNeg a2))), (A 9, .inl (Z 0, 12, .inl (M.2.2.1 9)))] H := hP
    have hD : va_D AA [(A 6, .inr (3, [.ref (A 7), .ref (A 8), .ref (A 9), .int (M.1 1)])), (A 7, .inl (Z 0, 12, .inl (upd (M.2.2.1 7) ((M.1 1)).toNatClampNeg a1))), (A 8, .inl (Z 0, 12, .inl (upd (M.2.2.1 8) ((M.1 1)).toNatClampNeg a2))), (A 9, .inl (Z 0, 12, .inl (M.2.2.1 9)))] := hD
    refine lv_aload_n hx hb d_Program_add_28 rfl (lv_at hl 0 rfl) ?_
    refine va_get (D := (dC, dI)) (ci := 3) (v := .ref (A 9)) (C := "CentrifugeUnit$Program") (T := xF3) (N := 4) hx hb htt xin3 hown hK hP 0 rfl rfl 2 (by decide) (htt _ tw_65) (fun _ h9 => h9) rfl d_Program_add_29 ?_
    refine lv_aload_n hx hb d_Program_add_32 rfl (lv_at hl 0 rfl) ?_
    refine va_get (D := (dC, dI)) (ci := 3) (v := .int (M.1 1)) (C := "CentrifugeUnit$Program") (T := xF3) (N := 4) hx hb htt xin3 hown hK hP 0 rfl rfl 3 (by decide) (htt _ tw_67) (fun _ h9 => h9) rfl d_Program_add_33 ?_
    refine lv_iload_n hx hb d_Program_add_36 rfl (lv_at hl 3 rfl) ?_
    refine va_iast (D := (dC, dI)) hx hb hK hP hD hS 3 0 rfl rfl (xfull h3 hz1 hc) d_Program_add_37 (fun H locs hP hD hS => ?_)
    have hP : va_P (dC, dI) xcl [(A 6, .inr (3, [.ref (A 7), .ref (A 8), .ref (A 9), .int (M.1 1)])), (A 7, .inl (Z 0, 12, .inl (upd (M.2.2.1 7) ((M.1 1)).toNatClampNeg a1))), (A 8, .inl (Z 0, 12, .inl (upd (M.2.2.1 8) ((M.1 1)).toNatClampNeg a2))), (A 9, .inl (Z 0, 12, .inl (upd (M.2.2.1 9) ((M.1 1)).toNatClampNeg a3)))] H := hP
    have hD : va_D AA [(A 6, .inr (3, [.ref (A 7), .ref (A 8), .ref (A 9), .int (M.1 1)])), (A 7, .inl (Z 0, 12, .inl (upd (M.2.2.1 7) ((M.1 1)).toNatClampNeg a1))), (A 8, .inl (Z 0, 12, .inl (upd (M.2.2.1 8) ((M.1 1)).toNatClampNeg a2))), (A 9, .inl (Z 0, 12, .inl (upd (M.2.2.1 9) ((M.1 1)).toNatClampNeg a3)))] := hD
    refine lv_aload_n hx hb d_Program_add_38 rfl (lv_at hl 0 rfl) ?_
    refine lv_dup hx hb d_Program_add_39 rfl ?_
    refine va_get (D := (dC, dI)) (ci := 3) (v := .int (M.1 1)) (C := "CentrifugeUnit$Program") (T := xF3) (N := 4) hx hb htt xin3 hown hK hP 0 rfl rfl 3 (by decide) (htt _ tw_67) (fun _ h9 => h9) rfl d_Program_add_40 ?_
    refine lv_iconst (v := 1) hx hb d_Program_add_43 (by decide) ?_
    refine lv_iadd hx hb d_Program_add_44 ?_
    refine va_put (D := (dC, dI)) (ci := 3) (v := .int ((M.1 1) + 1)) (ty := .int) (C := "CentrifugeUnit$Program") (T := xF3) (N := 4) hx hb htt xin3 xT3 xTo3 xNm3 hown hK hP hD hS 0 rfl rfl 3 (by decide) (htt _ tw_67) (fun _ h9 => h9) rfl (by decide +kernel) rfl rfl (Nat.le_of_ble_eq_true rfl) d_Program_add_45 (fun H locs hP hD hS => ?_)
    have hP : va_P (dC, dI) xcl [(A 6, .inr (3, [.ref (A 7), .ref (A 8), .ref (A 9), .int ((M.1 1) + 1)])), (A 7, .inl (Z 0, 12, .inl (upd (M.2.2.1 7) ((M.1 1)).toNatClampNeg a1))), (A 8, .inl (Z 0, 12, .inl (upd (M.2.2.1 8) ((M.1 1)).toNatClampNeg a2))), (A 9, .inl (Z 0, 12, .inl (upd (M.2.2.1 9) ((M.1 1)).toNatClampNeg a3)))] H := hP
    have hD : va_D AA [(A 6, .inr (3, [.ref (A 7), .ref (A 8), .ref (A 9), .int ((M.1 1) + 1)])), (A 7, .inl (Z 0, 12, .inl (upd (M.2.2.1 7) ((M.1 1)).toNatClampNeg a1))), (A 8, .inl (Z 0, 12, .inl (upd (M.2.2.1 8) ((M.1 1)).toNatClampNeg a2))), (A 9, .inl (Z 0, 12, .inl (upd (M.2.2.1 9) ((M.1 1)).toNatClampNeg a3)))] := hD
    have hP9 := hP.sub (ws' := [(A 6, xc6 Z A (ap_Program_add M ((upd (M.2.2.1 7) ((M.1 1)).toNatClampNeg a1), (upd (M.2.2.1 8) ((M.1 1)).toNatClampNeg a2), (upd (M.2.2.1 9) ((M.1 1)).toNatClampNeg a3), ((M.1 1) + 1)))), (A 7, xc7 Z A (ap_Program_add M ((upd (M.2.2.1 7) ((M.1 1)).toNatClampNeg a1), (upd (M.2.2.1 8) ((M.1 1)).toNatClampNeg a2), (upd (M.2.2.1 9) ((M.1 1)).toNatClampNeg a3), ((M.1 1) + 1)))), (A 8, xc8 Z A (ap_Program_add M ((upd (M.2.2.1 7) ((M.1 1)).toNatClampNeg a1), (upd (M.2.2.1 8) ((M.1 1)).toNatClampNeg a2), (upd (M.2.2.1 9) ((M.1 1)).toNatClampNeg a3), ((M.1 1) + 1)))), (A 9, xc9 Z A (ap_Program_add M ((upd (M.2.2.1 7) ((M.1 1)).toNatClampNeg a1), (upd (M.2.2.1 8) ((M.1 1)).toNatClampNeg a2), (upd (M.2.2.1 9) ((M.1 1)).toNatClampNeg a3), ((M.1 1) + 1))))]) [0, 1, 2, 3] rfl
    have hD9 := hD.sub (ws' := [(A 6, xc6 Z A (ap_Program_add M ((upd (M.2.2.1 7) ((M.1 1)).toNatClampNeg a1), (upd (M.2.2.1 8) ((M.1 1)).toNatClampNeg a2), (upd (M.2.2.1 9) ((M.1 1)).toNatClampNeg a3), ((M.1 1) + 1)))), (A 7, xc7 Z A (ap_Program_add M ((upd (M.2.2.1 7) ((M.1 1)).toNatClampNeg a1), (upd (M.2.2.1 8) ((M.1 1)).toNatClampNeg a2), (upd (M.2.2.1 9) ((M.1 1)).toNatClampNeg a3), ((M.1 1) + 1)))), (A 8, xc8 Z A (ap_Program_add M ((upd (M.2.2.1 7) ((M.1 1)).toNatClampNeg a1), (upd (M.2.2.1 8) ((M.1 1)).toNatClampNeg a2), (upd (M.2.2.1 9) ((M.1 1)).toNatClampNeg a3), ((M.1 1) + 1)))), (A 9, xc9 Z A (ap_Program_add M ((upd (M.2.2.1 7) ((M.1 1)).toNatClampNeg a1), (upd (M.2.2.1 8) ((M.1 1)).toNatClampNeg a2), (upd (M.2.2.1 9) ((M.1 1)).toNatClampNeg a3), ((M.1 1) + 1))))]) [0, 1, 2, 3] (by decide) rfl
    exact W.vret hx hb hr (fun t ht hW => ⟨⟨((upd (M.2.2.1 7) ((M.1 1)).toNatClampNeg a1), (upd (M.2.2.1 8) ((M.1 1)).toNatClampNeg a2), (upd (M.2.2.1 9) ((M.1 1)).toNatClampNeg a3), ((M.1 1) + 1)), rfl, (by rw [F_Program_add, ← hz1, F_Program_add_k2, if_pos h3]), xE_at hP9 hK hD9 ht hW⟩, hS.F ht⟩) hS.2.2 d_Program_add_48
  · have hP9 := hP.sub (ws' := [(A 6, xc6 Z A (ap_Program_add M ((M.2.2.1 7), (M.2.2.1 8), (M.2.2.1 9), (M.1 1)))), (A 7, xc7 Z A (ap_Program_add M ((M.2.2.1 7), (M.2.2.1 8), (M.2.2.1 9), (M.1 1)))), (A 8, xc8 Z A (ap_Program_add M ((M.2.2.1 7), (M.2.2.1 8), (M.2.2.1 9), (M.1 1)))), (A 9, xc9 Z A (ap_Program_add M ((M.2.2.1 7), (M.2.2.1 8), (M.2.2.1 9), (M.1 1))))]) [0, 1, 2, 3] rfl
    have hD9 := hD.sub (ws' := [(A 6, xc6 Z A (ap_Program_add M ((M.2.2.1 7), (M.2.2.1 8), (M.2.2.1 9), (M.1 1)))), (A 7, xc7 Z A (ap_Program_add M ((M.2.2.1 7), (M.2.2.1 8), (M.2.2.1 9), (M.1 1)))), (A 8, xc8 Z A (ap_Program_add M ((M.2.2.1 7), (M.2.2.1 8), (M.2.2.1 9), (M.1 1)))), (A 9, xc9 Z A (ap_Program_add M ((M.2.2.1 7), (M.2.2.1 8), (M.2.2.1 9), (M.1 1))))]) [0, 1, 2, 3] (by decide) rfl
    exact W.vret hx hb hr (fun t ht hW => ⟨⟨((M.2.2.1 7), (M.2.2.1 8), (M.2.2.1 9), (M.1 1)), rfl, (by rw [F_Program_add, ← hz1, F_Program_add_k2, if_neg h3]), xE_at hP9 hK hD9 ht hW⟩, hS.F ht⟩) hS.2.2 d_Program_add_7
abbrev bc_Run_begin : ByteArray := prog_8_method_2_code
def y_Run_begin : MethodName := ⟨"CentrifugeUnit$Run", "begin", "()V"⟩
theorem d_Run_begin_0 : decode bc_Run_begin 0 = .ok (.aload_n 0, 1) := by decide +kernel
theorem d_Run_begin_1 : decode bc_Run_begin 1 = .ok (.lconst 0, 1) := by decide +kernel
theorem d_Run_begin_2 : decode bc_Run_begin 2 = .ok (.putfield 15, 3) := by decide +kernel
theorem d_Run_begin_5 : decode bc_Run_begin 5 = .ok (.aload_n 0, 1) := by decide +kernel
theorem d_Run_begin_6 : decode bc_Run_begin 6 = .ok (.lconst 0, 1) := by decide +kernel
theorem d_Run_begin_7 : decode bc_Run_begin 7 = .ok (.putfield 19, 3) := by decide +kernel
theorem d_Run_begin_10 : decode bc_Run_begin 10 = .ok (.aload_n 0, 1) := by decide +kernel
theorem d_Run_begin_11 : decode bc_Run_begin 11 = .ok (.iconst (-1), 1) := by decide +kernel
theorem d_Run_begin_12 : decode bc_Run_begin 12 = .ok (.putfield 9, 3) := by decide +kernel
theorem d_Run_begin_15 : decode bc_Run_begin 15 = .ok (.aload_n 0, 1) := by decide +kernel
theorem d_Run_begin_16 : decode bc_Run_begin 16 = .ok (.iconst 0, 1) := by decide +kernel
theorem d_Run_begin_17 : decode bc_Run_begin 17 = .ok (.putfield 22, 3) := by decide +kernel
theorem d_Run_begin_20 : decode bc_Run_begin 20 = .ok (.aload_n 0, 1) := by decide +kernel
theorem d_Run_begin_21 : decode bc_Run_begin 21 = .ok (.iconst 0, 1) := by decide +kernel
theorem d_Run_begin_22 : decode bc_Run_begin 22 = .ok (.putfield 26, 3) := by decide +kernel
theorem d_Run_begin_25 : decode bc_Run_begin 25 = .ok (.aload_n 0, 1) := by decide +kernel
theorem d_Run_begin_26 : decode bc_Run_begin 26 = .ok (.iconst 0, 1) := by decide +kernel
theorem d_Run_begin_27 : decode bc_Run_begin 27 = .ok (.putfield 29, 3) := by decide +kernel
theorem d_Run_begin_30 : decode bc_Run_begin 30 = .ok (.aload_n 0, 1) := by decide +kernel
theorem d_Run_begin_31 : decode bc_Run_begin 31 = .ok (.iconst 0, 1) := by decide +kernel
theorem d_Run_begin_32 : decode bc_Run_begin 32 = .ok (.putfield 32, 3) := by decide +kernel
theorem d_Run_begin_35 : decode bc_Run_begin 35 = .ok (.aload_n 0, 1) := by decide +kernel
theorem d_Run_begin_36 : decode bc_Run_begin 36 = .ok (.iconst 0, 1) := by decide +kernel
theorem d_Run_begin_37 : decode bc_Run_begin 37 = .ok (.putfield 35, 3) := by decide +kernel
theorem d_Run_begin_40 : decode bc_Run_begin 40 = .ok (.return_, 1) := by decide +kernel
abbrev ap_Run_begin (M : XM) (u : (Int64 × Int64 × Int32 × Int32 × Int32 × Int32 × Int32 × Int32)) : XM := ((va_up (va_up (va_up (va_up (va_up (va_up M.1 23 (u.2.2.1)) 24 (u.2.2.2.1)) 25 (u.2.2.2.2.1)) 26 (u.2.2.2.2.2.1)) 27 (u.2.2.2.2.2.2.1)) 28 (u.2.2.2.2.2.2.2)), (va_up (va_up M.2.1 1 (u.1)) 2 (u.2.1)), M.2.2)
def F_Run_begin (M : XM) : (Int64 × Int64 × Int32 × Int32 × Int32 × Int32 × Int32 × Int32) := (0, 0, (-1), 0, 0, 0, 0, 0)
set_option maxHeartbeats 4000000 in
set_option maxRecDepth 100000 in
theorem c_Run_begin (l : Launch) (dC : Nat → ClassId) (dI : Nat → Nat → Nat) (Z : Nat → ClassId) (A : Nat → Nat) (sz : Nat) (M : XM) : Met l y_Run_begin (.code y_Run_begin bc_Run_begin 1 none :: xw) ({ frames := 0, cells := 0, slots := 0, locals := 0 }) (va_Pc [.ref (A 19)] (xB (dC, dI) xcl (xty Z) sz [(A 19, xc19 Z A M)])) (va_Qv (fun u : (Int64 × Int64 × Int32 × Int32 × Int32 × Int32 × Int32 × Int32) => u = F_Run_begin M) (fun u => xE (dC, dI) xcl (xty Z) (va_A [(A 19, xc19 Z A M)] sz) [(A 19, xc19 Z A (ap_Run_begin M u))]) (va_A [(A 19, xc19 Z A M)] sz)) 0 0 (va_A [(A 19, xc19 Z A M)] sz) := by
  refine Met.ofW (cc := bc_Run_begin) (maxL := 1) (ret := none) (by decide) rfl ?_
  intro p e s m args below meth c s₁ B hml hv
  obtain ⟨rfl, hsz, hP, hK, hD0, hq⟩ := hv
  have hx := B.exec
  have hb := B.bytes
  have hr := B.returns
  have hts := atoms_spec (ws := (.code y_Run_begin bc_Run_begin 1 none :: xw)) B.pre
  have htt : ∀ w ∈ xw, w.before _ s = true := fun w h => hts w (List.mem_cons_of_mem _ h)
  have hown : s.vm.findClass "CentrifugeUnit$Run" = some m.cls := findClass_of_methodNamed B.named
  have hlocks := B.notSynchronized
  subst hsz
  have hD := hD0.self (sz := s.heap.size)
  generalize hAe : va_A [(A 19, xc19 Z A M)] s.heap.size = AA at hD ⊢
  have hA : ∀ q : Nat, s.heap.size ≤ q → AA q := fun q h => by rw [← hAe]; exact Or.inr h
  have hS : va_S AA s.heap s.heap [] := va_S.rf
  have hP : va_P (dC, dI) xcl [(A 19, .inr (6, [.long (M.2.1 1), .long (M.2.1 2), .int (M.1 23), .int (M.1 24), .int (M.1 25), .int (M.1 26), .int (M.1 27), .int (M.1 28)]))] s.heap := hP
  have hD : va_D AA [(A 19, .inr (6, [.long (M.2.1 1), .long (M.2.1 2), .int (M.1 23), .int (M.1 24), .int (M.1 25), .int (M.1 26), .int (M.1 27), .int (M.1 28)]))] := hD
  have hl := lv_entry ([.ref (A 19)]) (n := 1) (Nat.le_of_ble_eq_true rfl)
  rw [lg_entry_eq]
  generalize (lg_sl ([.ref (A 19)]) ++ List.replicate (1 - (lg_sl ([.ref (A 19)])).length) Slot.unset).toArray = ls at hl ⊢
  have hl : lv_has ls 1 [(0, .ref (A 19))] := hl
  refine lv_aload_n hx hb d_Run_begin_0 rfl (lv_at hl 0 rfl) ?_
  refine lv_lconst (v := 0) hx hb d_Run_begin_1 (by decide) ?_
  refine va_put (D := (dC, dI)) (ci := 6) (v := .long 0) (ty := .long) (C := "CentrifugeUnit$Run") (T := xF6) (N := 8) hx hb htt xin6 xT6 xTo6 xNm6 hown hK hP hD hS 0 rfl rfl 0 (by decide) (htt _ tw_194) (fun _ h9 => h9) rfl (by decide +kernel) rfl rfl (Nat.le_of_ble_eq_true rfl) d_Run_begin_2 (fun H locs hP hD hS => ?_)
  have hP : va_P (dC, dI) xcl [(A 19, .inr (6, [.long 0, .long (M.2.1 2), .int (M.1 23), .int (M.1 24), .int (M.1 25), .int (M.1 26), .int (M.1 27), .int (M.1 28)]))] H := hP
  have hD : va_D AA [(A 19, .inr (6, [.long 0, .long (M.2.1 2), .int (M.1 23), .int (M.1 24), .int (M.1 25), .int (M.1 26), .int (M.1 27), .int (M.1 28)]))] := hD
  refine lv_aload_n hx hb d_Run_begin_5 rfl (lv_at hl 0 rfl) ?_
  refine lv_lconst (v := 0) hx hb d_Run_begin_6 (by decide) ?_
  refine va_put (D := (dC, dI)) (ci := 6) (v := .long 0) (ty := .long) (C := "CentrifugeUnit$Run") (T := xF6) (N := 8) hx hb htt xin6 xT6 xTo6 xNm6 hown hK hP hD hS 0 rfl rfl 1 (by decide) (htt _ tw_197) (fun _ h9 => h9) rfl (by decide +kernel) rfl rfl (Nat.le_of_ble_eq_true rfl) d_Run_begin_7 (fun H locs hP hD hS => ?_)
  have hP : va_P (dC, dI) xcl [(A 19, .inr (6, [.long 0, .long 0, .int (M.1 23), .int (M.1 24), .int (M.1 25), .int (M.1 26), .int (M.1 27), .int (M.1 28)]))] H := hP
  have hD : va_D AA [(A 19, .inr (6, [.long 0, .long 0, .int (M.1 23), .int (M.1 24), .int (M.1 25), .int (M.1 26), .int (M.1 27), .int (M.1 28)]))] := hD
  refine lv_aload_n hx hb d_Run_begin_10 rfl (lv_at hl 0 rfl) ?_
  refine lv_iconst (v := (-1)) hx hb d_Run_begin_11 (by decide) ?_
  refine va_put (D := (dC, dI)) (ci := 6) (v := .int (-1)) (ty := .int) (C := "CentrifugeUnit$Run") (T := xF6) (N := 8) hx hb htt xin6 xT6 xTo6 xNm6 hown hK hP hD hS 0 rfl rfl 2 (by decide) (htt _ tw_199) (fun _ h9 => h9) rfl (by decide +kernel) rfl rfl (Nat.le_of_ble_eq_true rfl) d_Run_begin_12 (fun H locs hP hD hS => ?_)
  have hP : va_P (dC, dI) xcl [(A 19, .inr (6, [.long 0, .long 0, .int (-1), .int (M.1 24), .int (M.1 25), .int (M.1 26), .int (M.1 27), .int (M.1 28)]))] H := hP
  have hD : va_D AA [(A 19, .inr (6, [.long 0, .long 0, .int (-1), .int (M.1 24), .int (M.1 25), .int (M.1 26), .int (M.1 27), .int (M.1 28)]))] := hD
  refine lv_aload_n hx hb d_Run_begin_15 rfl (lv_at hl 0 rfl) ?_
  refine lv_iconst (v := 0) hx hb d_Run_begin_16 (by decide) ?_
  refine va_put (D := (dC, dI)) (ci := 6) (v := .int 0) (ty := .boolean) (C := "CentrifugeUnit$Run") (T := xF6) (N := 8) hx hb htt xin6 xT6 xTo6 xNm6 hown hK hP hD hS 0 rfl rfl 3 (by decide) (htt _ tw_202) (fun _ h9 => h9) rfl (by decide +kernel) rfl rfl (Nat.le_of_ble_eq_true rfl) d_Run_begin_17 (fun H locs hP hD hS => ?_)
  have hP : va_P (dC, dI) xcl [(A 19, .inr (6, [.long 0, .long 0, .int (-1), .int 0, .int (M.1 25), .int (M.1 26), .int (M.1 27), .int (M.1 28)]))] H := hP
  have hD : va_D AA [(A 19, .inr (6, [.long 0, .long 0, .int (-1), .int 0, .int (M.1 25), .int (M.1 26), .int (M.1 27), .int (M.1 28)]))] := hD
  refine lv_aload_n hx hb d_Run_begin_20 rfl (lv_at hl 0 rfl) ?_
  refine lv_iconst (v := 0) hx hb d_Run_begin_21 (by decide) ?_
  refine va_put (D := (dC, dI)) (ci := 6) (v := .int 0) (ty := .int) (C := "CentrifugeUnit$Run") (T := xF6) (N := 8) hx hb htt xin6 xT6 xTo6 xNm6 hown hK hP hD hS 0 rfl rfl 4 (by decide) (htt _ tw_204) (fun _ h9 => h9) rfl (by decide +kernel) rfl rfl (Nat.le_of_ble_eq_true rfl) d_Run_begin_22 (fun H locs hP hD hS => ?_)
  have hP : va_P (dC, dI) xcl [(A 19, .inr (6, [.long 0, .long 0, .int (-1), .int 0, .int 0, .int (M.1 26), .int (M.1 27), .int (M.1 28)]))] H := hP
  have hD : va_D AA [(A 19, .inr (6, [.long 0, .long 0, .int (-1), .int 0, .int 0, .int (M.1 26), .int (M.1 27), .int (M.1 28)]))] := hD
  refine lv_aload_n hx hb d_Run_begin_25 rfl (lv_at hl 0 rfl) ?_
  refine lv_iconst (v := 0) hx hb d_Run_begin_26 (by decide) ?_
  refine va_put (D := (dC, dI)) (ci := 6) (v := .int 0) (ty := .int) (C := "CentrifugeUnit$Run") (T := xF6) (N := 8) hx hb htt xin6 xT6 xTo6 xNm6 hown hK hP hD hS 0 rfl rfl 5 (by decide) (htt _ tw_206) (fun _ h9 => h9) rfl (by decide +kernel) rfl rfl (Nat.le_of_ble_eq_true rfl) d_Run_begin_27 (fun H locs hP hD hS => ?_)
  have hP : va_P (dC, dI) xcl [(A 19, .inr (6, [.long 0, .long 0, .int (-1), .int 0, .int 0, .int 0, .int (M.1 27), .int (M.1 28)]))] H := hP
  have hD : va_D AA [(A 19, .inr (6, [.long 0, .long 0, .int (-1), .int 0, .int 0, .int 0, .int (M.1 27), .int (M.1 28)]))] := hD
  refine lv_aload_n hx hb d_Run_begin_30 rfl (lv_at hl 0 rfl) ?_
  refine lv_iconst (v := 0) hx hb d_Run_begin_31 (by decide) ?_
  refine va_put (D := (dC, dI)) (ci := 6) (v := .int 0) (ty := .int) (C := "CentrifugeUnit$Run") (T := xF6) (N := 8) hx hb htt xin6 xT6 xTo6 xNm6 hown hK hP hD hS 0 rfl rfl 6 (by decide) (htt _ tw_209) (fun _ h9 => h9) rfl (by decide +kernel) rfl rfl (Nat.le_of_ble_eq_true rfl) d_Run_begin_32 (fun H locs hP hD hS => ?_)
  have hP : va_P (dC, dI) xcl [(A 19, .inr (6, [.long 0, .long 0, .int (-1), .int 0, .int 0, .int 0, .int 0, .int (M.1 28)]))] H := hP
  have hD : va_D AA [(A 19, .inr (6, [.long 0, .long 0, .int (-1), .int 0, .int 0, .int 0, .int 0, .int (M.1 28)]))] := hD
  refine lv_aload_n hx hb d_Run_begin_35 rfl (lv_at hl 0 rfl) ?_
  refine lv_iconst (v := 0) hx hb d_Run_begin_36 (by decide) ?_
  refine va_put (D := (dC, dI)) (ci := 6) (v := .int 0) (ty := .int) (C := "CentrifugeUnit$Run") (T := xF6) (N := 8) hx hb htt xin6 xT6 xTo6 xNm6 hown hK hP hD hS 0 rfl rfl 7 (by decide) (htt _ tw_211) (fun _ h9 => h9) rfl (by decide +kernel) rfl rfl (Nat.le_of_ble_eq_true rfl) d_Run_begin_37 (fun H locs hP hD hS => ?_)
  have hP : va_P (dC, dI) xcl [(A 19, .inr (6, [.long 0, .long 0, .int (-1), .int 0, .int 0, .int 0, .int 0, .int 0]))] H := hP
  have hD : va_D AA [(A 19, .inr (6, [.long 0, .long 0, .int (-1), .int 0, .int 0, .int 0, .int 0, .int 0]))] := hD
  have hP9 := hP.sub (ws' := [(A 19, xc19 Z A (ap_Run_begin M (0, 0, (-1), 0, 0, 0, 0, 0)))]) [0] rfl
  have hD9 := hD.sub (ws' := [(A 19, xc19 Z A (ap_Run_begin M (0, 0, (-1), 0, 0, 0, 0, 0)))]) [0] (by decide) rfl
  exact W.vret hx hb hr (fun t ht hW => ⟨⟨(0, 0, (-1), 0, 0, 0, 0, 0), rfl, (by rw [F_Run_begin]), xE_at hP9 hK hD9 ht hW⟩, hS.F ht⟩) hS.2.2 d_Run_begin_40
abbrev bc_Run_moveGoal : ByteArray := prog_8_method_4_code
def y_Run_moveGoal : MethodName := ⟨"CentrifugeUnit$Run", "moveGoal", "(II)V"⟩
theorem d_Run_moveGoal_0 : decode bc_Run_moveGoal 0 = .ok (.aload_n 0, 1) := by decide +kernel
theorem d_Run_moveGoal_1 : decode bc_Run_moveGoal 1 = .ok (.getfield 35, 3) := by decide +kernel
theorem d_Run_moveGoal_4 : decode bc_Run_moveGoal 4 = .ok (.iload_n 1, 1) := by decide +kernel
theorem d_Run_moveGoal_5 : decode bc_Run_moveGoal 5 = .ok (.if_icmp .ge 20, 3) := by decide +kernel
theorem d_Run_moveGoal_8 : decode bc_Run_moveGoal 8 = .ok (.aload_n 0, 1) := by decide +kernel
theorem d_Run_moveGoal_9 : decode bc_Run_moveGoal 9 = .ok (.iload_n 1, 1) := by decide +kernel
theorem d_Run_moveGoal_10 : decode bc_Run_moveGoal 10 = .ok (.aload_n 0, 1) := by decide +kernel
theorem d_Run_moveGoal_11 : decode bc_Run_moveGoal 11 = .ok (.getfield 35, 3) := by decide +kernel
theorem d_Run_moveGoal_14 : decode bc_Run_moveGoal 14 = .ok (.iload_n 2, 1) := by decide +kernel
theorem d_Run_moveGoal_15 : decode bc_Run_moveGoal 15 = .ok (.iadd, 1) := by decide +kernel
theorem d_Run_moveGoal_16 : decode bc_Run_moveGoal 16 = .ok (.invokestatic 48, 3) := by decide +kernel
theorem d_Run_moveGoal_19 : decode bc_Run_moveGoal 19 = .ok (.putfield 35, 3) := by decide +kernel
theorem d_Run_moveGoal_22 : decode bc_Run_moveGoal 22 = .ok (.goto 17, 3) := by decide +kernel
theorem d_Run_moveGoal_25 : decode bc_Run_moveGoal 25 = .ok (.aload_n 0, 1) := by decide +kernel
theorem d_Run_moveGoal_26 : decode bc_Run_moveGoal 26 = .ok (.iload_n 1, 1) := by decide +kernel
theorem d_Run_moveGoal_27 : decode bc_Run_moveGoal 27 = .ok (.aload_n 0, 1) := by decide +kernel
theorem d_Run_moveGoal_28 : decode bc_Run_moveGoal 28 = .ok (.getfield 35, 3) := by decide +kernel
theorem d_Run_moveGoal_31 : decode bc_Run_moveGoal 31 = .ok (.iload_n 2, 1) := by decide +kernel
theorem d_Run_moveGoal_32 : decode bc_Run_moveGoal 32 = .ok (.isub, 1) := by decide +kernel
theorem d_Run_moveGoal_33 : decode bc_Run_moveGoal 33 = .ok (.invokestatic 54, 3) := by decide +kernel
theorem d_Run_moveGoal_36 : decode bc_Run_moveGoal 36 = .ok (.putfield 35, 3) := by decide +kernel
theorem d_Run_moveGoal_39 : decode bc_Run_moveGoal 39 = .ok (.return_, 1) := by decide +kernel
abbrev ap_Run_moveGoal (M : XM) (u : Int32) : XM := ((va_up M.1 28 u), M.2)
def F_Run_moveGoal_k3 (M : XM) (a1 : Int32) (a2 : Int32) (z2 : Int32) : (Int32) := z2
def F_Run_moveGoal_k5 (M : XM) (a1 : Int32) (a2 : Int32) (z4 : Int32) : (Int32) := z4
def F_Run_moveGoal (M : XM) (a1 : Int32) (a2 : Int32) : (Int32) := (if a1 ≤ (M.1 28) then (F_Run_moveGoal_k3 M a1 a2 (if a1 < ((M.1 28) - a2) then ((M.1 28) - a2) else a1)) else (F_Run_moveGoal_k5 M a1 a2 (if ((M.1 28) + a2) < a1 then ((M.1 28) + a2) else a1)))
set_option maxHeartbeats 4000000 in
set_option maxRecDepth 100000 in
theorem c_Run_moveGoal (l : Launch) (dC : Nat → ClassId) (dI : Nat → Nat → Nat) (Z : Nat → ClassId) (A : Nat → Nat) (sz : Nat) (M : XM) (a1 : Int32) (a2 : Int32) : Met l y_Run_moveGoal (.code y_Run_moveGoal bc_Run_moveGoal 3 none :: xw) ({ frames := 1, cells := 0, slots := 0, locals := 23 }) (va_Pc [.ref (A 19), .int a1, .int a2] (xB (dC, dI) xcl (xty Z) sz [(A 19, xc19 Z A M)])) (va_Qv (fun u : Int32 => u = F_Run_moveGoal M a1 a2) (fun u => xE (dC, dI) xcl (xty Z) (va_A [(A 19, xc19 Z A M)] sz) [(A 19, xc19 Z A (ap_Run_moveGoal M u))]) (va_A [(A 19, xc19 Z A M)] sz)) 0 0 (va_A [(A 19, xc19 Z A M)] sz) := by
  refine Met.ofW (cc := bc_Run_moveGoal) (maxL := 3) (ret := none) (by decide) rfl ?_
  intro p e s m args below meth c s₁ B hml hv
  obtain ⟨rfl, hsz, hP, hK, hD0, hq⟩ := hv
  have hx := B.exec
  have hb := B.bytes
  have hr := B.returns
  have hts := atoms_spec (ws := (.code y_Run_moveGoal bc_Run_moveGoal 3 none :: xw)) B.pre
  have htt : ∀ w ∈ xw, w.before _ s = true := fun w h => hts w (List.mem_cons_of_mem _ h)
  have hown : s.vm.findClass "CentrifugeUnit$Run" = some m.cls := findClass_of_methodNamed B.named
  have hlocks := B.notSynchronized
  subst hsz
  have hD := hD0.self (sz := s.heap.size)
  generalize hAe : va_A [(A 19, xc19 Z A M)] s.heap.size = AA at hD ⊢
  have hA : ∀ q : Nat, s.heap.size ≤ q → AA q := fun q h => by rw [← hAe]; exact Or.inr h
  have hS : va_S AA s.heap s.heap [] := va_S.rf
  have hP : va_P (dC, dI) xcl [(A 19, .inr (6, [.long (M.2.1 1), .long (M.2.1 2), .int (M.1 23), .int (M.1 24), .int (M.1 25), .int (M.1 26), .int (M.1 27), .int (M.1 28)]))] s.heap := hP
  have hD : va_D AA [(A 19, .inr (6, [.long (M.2.1 1), .long (M.2.1 2), .int (M.1 23), .int (M.1 24), .int (M.1 25), .int (M.1 26), .int (M.1 27), .int (M.1 28)]))] := hD
  have hl := lv_entry ([.ref (A 19), .int a1, .int a2]) (n := 3) (Nat.le_of_ble_eq_true rfl)
  rw [lg_entry_eq]
  generalize (lg_sl ([.ref (A 19), .int a1, .int a2]) ++ List.replicate (3 - (lg_sl ([.ref (A 19), .int a1, .int a2])).length) Slot.unset).toArray = ls at hl ⊢
  have hl : lv_has ls 3 [(0, .ref (A 19)), (1, .int a1), (2, .int a2)] := hl
  refine lv_aload_n hx hb d_Run_moveGoal_0 rfl (lv_at hl 0 rfl) ?_
  refine va_get (D := (dC, dI)) (ci := 6) (v := .int (M.1 28)) (C := "CentrifugeUnit$Run") (T := xF6) (N := 8) hx hb htt xin6 hown hK hP 0 rfl rfl 7 (by decide) (htt _ tw_211) (fun _ h9 => h9) rfl d_Run_moveGoal_1 ?_
  refine lv_iload_n hx hb d_Run_moveGoal_4 rfl (lv_at hl 1 rfl) ?_
  refine lv_icmp_ge (tgt := 25) hx hb d_Run_moveGoal_5 rfl (fun h1 => ?_) (fun h1 => ?_)
  · refine lv_aload_n hx hb d_Run_moveGoal_25 rfl (lv_at hl 0 rfl) ?_
    refine lv_iload_n hx hb d_Run_moveGoal_26 rfl (lv_at hl 1 rfl) ?_
    refine lv_aload_n hx hb d_Run_moveGoal_27 rfl (lv_at hl 0 rfl) ?_
    refine va_get (D := (dC, dI)) (ci := 6) (v := .int (M.1 28)) (C := "CentrifugeUnit$Run") (T := xF6) (N := 8) hx hb htt xin6 hown hK hP 0 rfl rfl 7 (by decide) (htt _ tw_211) (fun _ h9 => h9) rfl d_Run_moveGoal_28 ?_
    refine lv_iload_n hx hb d_Run_moveGoal_31 rfl (lv_at hl 2 rfl) ?_
    refine lv_isub hx hb d_Run_moveGoal_32 ?_
    refine va_mmax hx hb (hml.trans hl.1.symm) hown (htt _ tw_682) (htt _ tw_611) (htt _ tw_18) (htt _ tw_612) (Nat.le_of_ble_eq_true rfl) (Nat.le_of_ble_eq_true rfl) (Nat.le_of_ble_eq_true rfl) (Nat.le_of_ble_eq_true rfl) d_Run_moveGoal_33 ?_
    refine lv_topi (fun z2 hz2 => ?_)
    refine va_put (D := (dC, dI)) (ci := 6) (v := .int z2) (ty := .int) (C := "CentrifugeUnit$Run") (T := xF6) (N := 8) hx hb htt xin6 xT6 xTo6 xNm6 hown hK hP hD hS 0 rfl rfl 7 (by decide) (htt _ tw_211) (fun _ h9 => h9) rfl (by decide +kernel) rfl rfl (Nat.le_of_ble_eq_true rfl) d_Run_moveGoal_36 (fun H locs hP hD hS => ?_)
    have hP : va_P (dC, dI) xcl [(A 19, .inr (6, [.long (M.2.1 1), .long (M.2.1 2), .int (M.1 23), .int (M.1 24), .int (M.1 25), .int (M.1 26), .int (M.1 27), .int z2]))] H := hP
    have hD : va_D AA [(A 19, .inr (6, [.long (M.2.1 1), .long (M.2.1 2), .int (M.1 23), .int (M.1 24), .int (M.1 25), .int (M.1 26), .int (M.1 27), .int z2]))] := hD
    have hP9 := hP.sub (ws' := [(A 19, xc19 Z A (ap_Run_moveGoal M z2))]) [0] rfl
    have hD9 := hD.sub (ws' := [(A 19, xc19 Z A (ap_Run_moveGoal M z2))]) [0] (by decide) rfl
    exact W.vret hx hb hr (fun t ht hW => ⟨⟨z2, rfl, (by rw [F_Run_moveGoal, if_pos h1, ← hz2, F_Run_moveGoal_k3]), xE_at hP9 hK hD9 ht hW⟩, hS.F ht⟩) hS.2.2 d_Run_moveGoal_39
  · refine lv_aload_n hx hb d_Run_moveGoal_8 rfl (lv_at hl 0 rfl) ?_
    refine lv_iload_n hx hb d_Run_moveGoal_9 rfl (lv_at hl 1 rfl) ?_
    refine lv_aload_n hx hb d_Run_moveGoal_10 rfl (lv_at hl 0 rfl) ?_
    refine va_get (D := (dC, dI)) (ci := 6) (v := .int (M.1 28)) (C := "CentrifugeUnit$Run") (T := xF6) (N := 8) hx hb htt xin6 hown hK hP 0 rfl rfl 7 (by decide) (htt _ tw_211) (fun _ h9 => h9) rfl d_Run_moveGoal_11 ?_
    refine lv_iload_n hx hb d_Run_moveGoal_14 rfl (lv_at hl 2 rfl) ?_
    refine lv_iadd hx hb d_Run_moveGoal_15 ?_
    refine va_mmin hx hb (hml.trans hl.1.symm) hown (htt _ tw_681) (htt _ tw_614) (htt _ tw_18) (htt _ tw_615) (Nat.le_of_ble_eq_true rfl) (Nat.le_of_ble_eq_true rfl) (Nat.le_of_ble_eq_true rfl) (Nat.le_of_ble_eq_true rfl) d_Run_moveGoal_16 ?_
    refine lv_topi (fun z4 hz4 => ?_)
    refine va_put (D := (dC, dI)) (ci := 6) (v := .int z4) (ty := .int) (C := "CentrifugeUnit$Run") (T := xF6) (N := 8) hx hb htt xin6 xT6 xTo6 xNm6 hown hK hP hD hS 0 rfl rfl 7 (by decide) (htt _ tw_211) (fun _ h9 => h9) rfl (by decide +kernel) rfl rfl (Nat.le_of_ble_eq_true rfl) d_Run_moveGoal_19 (fun H locs hP hD hS => ?_)
    have hP : va_P (dC, dI) xcl [(A 19, .inr (6, [.long (M.2.1 1), .long (M.2.1 2), .int (M.1 23), .int (M.1 24), .int (M.1 25), .int (M.1 26), .int (M.1 27), .int z4]))] H := hP
    have hD : va_D AA [(A 19, .inr (6, [.long (M.2.1 1), .long (M.2.1 2), .int (M.1 23), .int (M.1 24), .int (M.1 25), .int (M.1 26), .int (M.1 27), .int z4]))] := hD
    refine lv_goto (tgt := 39) hx hb d_Run_moveGoal_22 rfl ?_
    have hP9 := hP.sub (ws' := [(A 19, xc19 Z A (ap_Run_moveGoal M z4))]) [0] rfl
    have hD9 := hD.sub (ws' := [(A 19, xc19 Z A (ap_Run_moveGoal M z4))]) [0] (by decide) rfl
    exact W.vret hx hb hr (fun t ht hW => ⟨⟨z4, rfl, (by rw [F_Run_moveGoal, if_neg h1, ← hz4, F_Run_moveGoal_k5]), xE_at hP9 hK hD9 ht hW⟩, hS.F ht⟩) hS.2.2 d_Run_moveGoal_39
abbrev bc_Run_nextSegment : ByteArray := prog_8_method_5_code
def y_Run_nextSegment : MethodName := ⟨"CentrifugeUnit$Run", "nextSegment", "()V"⟩
theorem d_Run_nextSegment_0 : decode bc_Run_nextSegment 0 = .ok (.aload_n 0, 1) := by decide +kernel
theorem d_Run_nextSegment_1 : decode bc_Run_nextSegment 1 = .ok (.dup, 1) := by decide +kernel
theorem d_Run_nextSegment_2 : decode bc_Run_nextSegment 2 = .ok (.getfield 29, 3) := by decide +kernel
theorem d_Run_nextSegment_5 : decode bc_Run_nextSegment 5 = .ok (.iconst 1, 1) := by decide +kernel
theorem d_Run_nextSegment_6 : decode bc_Run_nextSegment 6 = .ok (.iadd, 1) := by decide +kernel
theorem d_Run_nextSegment_7 : decode bc_Run_nextSegment 7 = .ok (.putfield 29, 3) := by decide +kernel
theorem d_Run_nextSegment_10 : decode bc_Run_nextSegment 10 = .ok (.aload_n 0, 1) := by decide +kernel
theorem d_Run_nextSegment_11 : decode bc_Run_nextSegment 11 = .ok (.iconst 0, 1) := by decide +kernel
theorem d_Run_nextSegment_12 : decode bc_Run_nextSegment 12 = .ok (.putfield 32, 3) := by decide +kernel
theorem d_Run_nextSegment_15 : decode bc_Run_nextSegment 15 = .ok (.return_, 1) := by decide +kernel
abbrev ap_Run_nextSegment (M : XM) (u : (Int32 × Int32)) : XM := ((va_up (va_up M.1 26 (u.1)) 27 (u.2)), M.2)
def F_Run_nextSegment (M : XM) : (Int32 × Int32) := (((M.1 26) + 1), 0)
set_option maxHeartbeats 4000000 in
set_option maxRecDepth 100000 in
theorem c_Run_nextSegment (l : Launch) (dC : Nat → ClassId) (dI : Nat → Nat → Nat) (Z : Nat → ClassId) (A : Nat → Nat) (sz : Nat) (M : XM) : Met l y_Run_nextSegment (.code y_Run_nextSegment bc_Run_nextSegment 1 none :: xw) ({ frames := 0, cells := 0, slots := 0, locals := 0 }) (va_Pc [.ref (A 19)] (xB (dC, dI) xcl (xty Z) sz [(A 19, xc19 Z A M)])) (va_Qv (fun u : (Int32 × Int32) => u = F_Run_nextSegment M) (fun u => xE (dC, dI) xcl (xty Z) (va_A [(A 19, xc19 Z A M)] sz) [(A 19, xc19 Z A (ap_Run_nextSegment M u))]) (va_A [(A 19, xc19 Z A M)] sz)) 0 0 (va_A [(A 19, xc19 Z A M)] sz) := by
  refine Met.ofW (cc := bc_Run_nextSegment) (maxL := 1) (ret := none) (by decide) rfl ?_
  intro p e s m args below meth c s₁ B hml hv
  obtain ⟨rfl, hsz, hP, hK, hD0, hq⟩ := hv
  have hx := B.exec
  have hb := B.bytes
  have hr := B.returns
  have hts := atoms_spec (ws := (.code y_Run_nextSegment bc_Run_nextSegment 1 none :: xw)) B.pre
  have htt : ∀ w ∈ xw, w.before _ s = true := fun w h => hts w (List.mem_cons_of_mem _ h)
  have hown : s.vm.findClass "CentrifugeUnit$Run" = some m.cls := findClass_of_methodNamed B.named
  have hlocks := B.notSynchronized
  subst hsz
  have hD := hD0.self (sz := s.heap.size)
  generalize hAe : va_A [(A 19, xc19 Z A M)] s.heap.size = AA at hD ⊢
  have hA : ∀ q : Nat, s.heap.size ≤ q → AA q := fun q h => by rw [← hAe]; exact Or.inr h
  have hS : va_S AA s.heap s.heap [] := va_S.rf
  have hP : va_P (dC, dI) xcl [(A 19, .inr (6, [.long (M.2.1 1), .long (M.2.1 2), .int (M.1 23), .int (M.1 24), .int (M.1 25), .int (M.1 26), .int (M.1 27), .int (M.1 28)]))] s.heap := hP
  have hD : va_D AA [(A 19, .inr (6, [.long (M.2.1 1), .long (M.2.1 2), .int (M.1 23), .int (M.1 24), .int (M.1 25), .int (M.1 26), .int (M.1 27), .int (M.1 28)]))] := hD
  have hl := lv_entry ([.ref (A 19)]) (n := 1) (Nat.le_of_ble_eq_true rfl)
  rw [lg_entry_eq]
  generalize (lg_sl ([.ref (A 19)]) ++ List.replicate (1 - (lg_sl ([.ref (A 19)])).length) Slot.unset).toArray = ls at hl ⊢
  have hl : lv_has ls 1 [(0, .ref (A 19))] := hl
  refine lv_aload_n hx hb d_Run_nextSegment_0 rfl (lv_at hl 0 rfl) ?_
  refine lv_dup hx hb d_Run_nextSegment_1 rfl ?_
  refine va_get (D := (dC, dI)) (ci := 6) (v := .int (M.1 26)) (C := "CentrifugeUnit$Run") (T := xF6) (N := 8) hx hb htt xin6 hown hK hP 0 rfl rfl 5 (by decide) (htt _ tw_206) (fun _ h9 => h9) rfl d_Run_nextSegment_2 ?_
  refine lv_iconst (v := 1) hx hb d_Run_nextSegment_5 (by decide) ?_
  refine lv_iadd hx hb d_Run_nextSegment_6 ?_
  refine va_put (D := (dC, dI)) (ci := 6) (v := .int ((M.1 26) + 1)) (ty := .int) (C := "CentrifugeUnit$Run") (T := xF6) (N := 8) hx hb htt xin6 xT6 xTo6 xNm6 hown hK hP hD hS 0 rfl rfl 5 (by decide) (htt _ tw_206) (fun _ h9 => h9) rfl (by decide +kernel) rfl rfl (Nat.le_of_ble_eq_true rfl) d_Run_nextSegment_7 (fun H locs hP hD hS => ?_)
  have hP : va_P (dC, dI) xcl [(A 19, .inr (6, [.long (M.2.1 1), .long (M.2.1 2), .int (M.1 23), .int (M.1 24), .int (M.1 25), .int ((M.1 26) + 1), .int (M.1 27), .int (M.1 28)]))] H := hP
  have hD : va_D AA [(A 19, .inr (6, [.long (M.2.1 1), .long (M.2.1 2), .int (M.1 23), .int (M.1 24), .int (M.1 25), .int ((M.1 26) + 1), .int (M.1 27), .int (M.1 28)]))] := hD
  refine lv_aload_n hx hb d_Run_nextSegment_10 rfl (lv_at hl 0 rfl) ?_
  refine lv_iconst (v := 0) hx hb d_Run_nextSegment_11 (by decide) ?_
  refine va_put (D := (dC, dI)) (ci := 6) (v := .int 0) (ty := .int) (C := "CentrifugeUnit$Run") (T := xF6) (N := 8) hx hb htt xin6 xT6 xTo6 xNm6 hown hK hP hD hS 0 rfl rfl 6 (by decide) (htt _ tw_209) (fun _ h9 => h9) rfl (by decide +kernel) rfl rfl (Nat.le_of_ble_eq_true rfl) d_Run_nextSegment_12 (fun H locs hP hD hS => ?_)
  have hP : va_P (dC, dI) xcl [(A 19, .inr (6, [.long (M.2.1 1), .long (M.2.1 2), .int (M.1 23), .int (M.1 24), .int (M.1 25), .int ((M.1 26) + 1), .int 0, .int (M.1 28)]))] H := hP
  have hD : va_D AA [(A 19, .inr (6, [.long (M.2.1 1), .long (M.2.1 2), .int (M.1 23), .int (M.1 24), .int (M.1 25), .int ((M.1 26) + 1), .int 0, .int (M.1 28)]))] := hD
  have hP9 := hP.sub (ws' := [(A 19, xc19 Z A (ap_Run_nextSegment M (((M.1 26) + 1), 0)))]) [0] rfl
  have hD9 := hD.sub (ws' := [(A 19, xc19 Z A (ap_Run_nextSegment M (((M.1 26) + 1), 0)))]) [0] (by decide) rfl
  exact W.vret hx hb hr (fun t ht hW => ⟨⟨(((M.1 26) + 1), 0), rfl, (by rw [F_Run_nextSegment]), xE_at hP9 hK hD9 ht hW⟩, hS.F ht⟩) hS.2.2 d_Run_nextSegment_15
abbrev bc_Run_readPattern : ByteArray := prog_8_method_3_code
def y_Run_readPattern : MethodName := ⟨"CentrifugeUnit$Run", "readPattern", "(LCentrifugeUnit$Rotors;)V"⟩
theorem d_Run_readPattern_0 : decode bc_Run_readPattern 0 = .ok (.aload_n 0, 1) := by decide +kernel
theorem d_Run_readPattern_1 : decode bc_Run_readPattern 1 = .ok (.lconst 0, 1) := by decide +kernel
theorem d_Run_readPattern_2 : decode bc_Run_readPattern 2 = .ok (.putfield 19, 3) := by decide +kernel
theorem d_Run_readPattern_5 : decode bc_Run_readPattern 5 = .ok (.aload_n 1, 1) := by decide +kernel
theorem d_Run_readPattern_6 : decode bc_Run_readPattern 6 = .ok (.aload_n 1, 1) := by decide +kernel
theorem d_Run_readPattern_7 : decode bc_Run_readPattern 7 = .ok (.invokevirtual 38, 3) := by decide +kernel
theorem d_Run_readPattern_10 : decode bc_Run_readPattern 10 = .ok (.invokevirtual 44, 3) := by decide +kernel
theorem d_Run_readPattern_13 : decode bc_Run_readPattern 13 = .ok (.istore_n 2, 1) := by decide +kernel
theorem d_Run_readPattern_14 : decode bc_Run_readPattern 14 = .ok (.iload_n 2, 1) := by decide +kernel
theorem d_Run_readPattern_15 : decode bc_Run_readPattern 15 = .ok (.iconst (-1), 1) := by decide +kernel
theorem d_Run_readPattern_16 : decode bc_Run_readPattern 16 = .ok (.if_icmp .eq 19, 3) := by decide +kernel
theorem d_Run_readPattern_19 : decode bc_Run_readPattern 19 = .ok (.aload_n 0, 1) := by decide +kernel
theorem d_Run_readPattern_20 : decode bc_Run_readPattern 20 = .ok (.getfield 9, 3) := by decide +kernel
theorem d_Run_readPattern_23 : decode bc_Run_readPattern 23 = .ok (.iconst (-1), 1) := by decide +kernel
theorem d_Run_readPattern_24 : decode bc_Run_readPattern 24 = .ok (.if_icmp .eq 19, 3) := by decide +kernel
theorem d_Run_readPattern_27 : decode bc_Run_readPattern 27 = .ok (.iload_n 2, 1) := by decide +kernel
theorem d_Run_readPattern_28 : decode bc_Run_readPattern 28 = .ok (.aload_n 0, 1) := by decide +kernel
theorem d_Run_readPattern_29 : decode bc_Run_readPattern 29 = .ok (.getfield 9, 3) := by decide +kernel
theorem d_Run_readPattern_32 : decode bc_Run_readPattern 32 = .ok (.if_icmp .eq 11, 3) := by decide +kernel
theorem d_Run_readPattern_35 : decode bc_Run_readPattern 35 = .ok (.aload_n 0, 1) := by decide +kernel
theorem d_Run_readPattern_36 : decode bc_Run_readPattern 36 = .ok (.iconst 1, 1) := by decide +kernel
theorem d_Run_readPattern_37 : decode bc_Run_readPattern 37 = .ok (.putfield 22, 3) := by decide +kernel
theorem d_Run_readPattern_40 : decode bc_Run_readPattern 40 = .ok (.goto 8, 3) := by decide +kernel
theorem d_Run_readPattern_43 : decode bc_Run_readPattern 43 = .ok (.aload_n 0, 1) := by decide +kernel
theorem d_Run_readPattern_44 : decode bc_Run_readPattern 44 = .ok (.iload_n 2, 1) := by decide +kernel
theorem d_Run_readPattern_45 : decode bc_Run_readPattern 45 = .ok (.putfield 9, 3) := by decide +kernel
theorem d_Run_readPattern_48 : decode bc_Run_readPattern 48 = .ok (.return_, 1) := by decide +kernel
abbrev ap_Run_readPattern (M : XM) (u : (Int64 × Int32 × Int32)) : XM := ((va_up (va_up M.1 24 (u.2.1)) 23 (u.2.2)), (va_up M.2.1 2 (u.1)), M.2.2)
def F_Run_readPattern_k4 (M : XM) (z1 : Int32) (z3 : Int32) : (Int64 × Int32 × Int32) := (if z3 = (-1) then (0, 1, (M.1 23)) else (if (M.1 23) = (-1) then (0, (M.1 24), z3) else (if z3 = (M.1 23) then (0, (M.1 24), z3) else (0, 1, (M.1 23)))))
def F_Run_readPattern_k2 (M : XM) (z1 : Int32) : (Int64 × Int32 × Int32) := (F_Run_readPattern_k4 M z1 (F_Rotors_withPattern M z1))
def F_Run_readPattern (M : XM) : (Int64 × Int32 × Int32) := (F_Run_readPattern_k2 M (F_Rotors_patternIn M))
set_option maxHeartbeats 4000000 in
set_option maxRecDepth 100000 in
theorem c_Run_readPattern (l : Launch) (dC : Nat → ClassId) (dI : Nat → Nat → Nat) (Z : Nat → ClassId) (A : Nat → Nat) (sz : Nat) (M : XM) : Met l y_Run_readPattern (.code y_Run_readPattern bc_Run_readPattern 3 none :: xw) ({ frames := 3, cells := 0, slots := 0, locals := 62 }) (va_Pc [.ref (A 19), .ref (A 1)] (xB (dC, dI) xcl (xty Z) sz [(A 19, xc19 Z A M), (A 1, xc1 Z A M), (A 2, xc2 Z A M)])) (va_Qv (fun u : (Int64 × Int32 × Int32) => u = F_Run_readPattern M) (fun u => xE (dC, dI) xcl (xty Z) (va_A [(A 19, xc19 Z A M), (A 1, xc1 Z A M), (A 2, xc2 Z A M)] sz) [(A 19, xc19 Z A (ap_Run_readPattern M u)), (A 1, xc1 Z A (ap_Run_readPattern M u)), (A 2, xc2 Z A (ap_Run_readPattern M u))]) (va_A [(A 19, xc19 Z A M), (A 1, xc1 Z A M), (A 2, xc2 Z A M)] sz)) 0 0 (va_A [(A 19, xc19 Z A M), (A 1, xc1 Z A M), (A 2, xc2 Z A M)] sz) := by
  refine Met.ofW (cc := bc_Run_readPattern) (maxL := 3) (ret := none) (by decide) rfl ?_
  intro p e s m args below meth c s₁ B hml hv
  obtain ⟨rfl, hsz, hP, hK, hD0, hq⟩ := hv
  have hx := B.exec
  have hb := B.bytes
  have hr := B.returns
  have hts := atoms_spec (ws := (.code y_Run_readPattern bc_Run_readPattern 3 none :: xw)) B.pre
  have htt : ∀ w ∈ xw, w.before _ s = true := fun w h => hts w (List.mem_cons_of_mem _ h)
  have hown : s.vm.findClass "CentrifugeUnit$Run" = some m.cls := findClass_of_methodNamed B.named
  have hlocks := B.notSynchronized
  subst hsz
  have hD := hD0.self (sz := s.heap.size)
  generalize hAe : va_A [(A 19, xc19 Z A M), (A 1, xc1 Z A M), (A 2, xc2 Z A M)] s.heap.size = AA at hD ⊢
  have hA : ∀ q : Nat, s.heap.size ≤ q → AA q := fun q h => by rw [← hAe]; exact Or.inr h
  have hS : va_S AA s.heap s.heap [] := va_S.rf
  have hP : va_P (dC, dI) xcl [(A 19, .inr (6, [.long (M.2.1 1), .long (M.2.1 2), .int (M.1 23), .int (M.1 24), .int (M.1 25), .int (M.1 26), .int (M.1 27), .int (M.1 28)])), (A 1, .inr (5, [.ref (A 2), .ref (A 3), .ref (A 4), .ref (A 5), .int (M.1 0)])), (A 2, .inl (Z 0, 4, .inl (M.2.2.1 2)))] s.heap := hP
  have hD : va_D AA [(A 19, .inr (6, [.long (M.2.1 1), .long (M.2.1 2), .int (M.1 23), .int (M.1 24), .int (M.1 25), .int (M.1 26), .int (M.1 27), .int (M.1 28)])), (A 1, .inr (5, [.ref (A 2), .ref (A 3), .ref (A 4), .ref (A 5), .int (M.1 0)])), (A 2, .inl (Z 0, 4, .inl (M.2.2.1 2)))] := hD
  have hl := lv_entry ([.ref (A 19), .ref (A 1)]) (n := 3) (Nat.le_of_ble_eq_true rfl)
  rw [lg_entry_eq]
  generalize (lg_sl ([.ref (A 19), .ref (A 1)]) ++ List.replicate (3 - (lg_sl ([.ref (A 19), .ref (A 1)])).length) Slot.unset).toArray = ls at hl ⊢
  have hl : lv_has ls 3 [(0, .ref (A 19)), (1, .ref (A 1))] := hl
  refine lv_aload_n hx hb d_Run_readPattern_0 rfl (lv_at hl 0 rfl) ?_
  refine lv_lconst (v := 0) hx hb d_Run_readPattern_1 (by decide) ?_
  refine va_put (D := (dC, dI)) (ci := 6) (v := .long 0) (ty := .long) (C := "CentrifugeUnit$Run") (T := xF6) (N := 8) hx hb htt xin6 xT6 xTo6 xNm6 hown hK hP hD hS 0 rfl rfl 1 (by decide) (htt _ tw_197) (fun _ h9 => h9) rfl (by decide +kernel) rfl rfl (Nat.le_of_ble_eq_true rfl) d_Run_readPattern_2 (fun H locs hP hD hS => ?_)
  have hP : va_P (dC, dI) xcl [(A 19, .inr (6, [.long (M.2.1 1), .long 0, .int (M.1 23), .int (M.1 24), .int (M.1 25), .int (M.1 26), .int (M.1 27), .int (M.1 28)])), (A 1, .inr (5, [.ref (A 2), .ref (A 3), .ref (A 4), .ref (A 5), .int (M.1 0)])), (A 2, .inl (Z 0, 4, .inl (M.2.2.1 2)))] H := hP
  have hD : va_D AA [(A 19, .inr (6, [.long (M.2.1 1), .long 0, .int (M.1 23), .int (M.1 24), .int (M.1 25), .int (M.1 26), .int (M.1 27), .int (M.1 28)])), (A 1, .inr (5, [.ref (A 2), .ref (A 3), .ref (A 4), .ref (A 5), .int (M.1 0)])), (A 2, .inl (Z 0, 4, .inl (M.2.2.1 2)))] := hD
  refine lv_aload_n hx hb d_Run_readPattern_5 rfl (lv_at hl 1 rfl) ?_
  refine lv_aload_n hx hb d_Run_readPattern_6 rfl (lv_at hl 1 rfl) ?_
  have hPc := hP.sub (ws' := [(A 1, xc1 Z A M), (A 2, xc2 Z A M)]) [1, 2] rfl
  have hDc := hD.sub (ws' := [(A 1, xc1 Z A M), (A 2, xc2 Z A M)]) [1, 2] (by decide) rfl
  refine xk_p (va_runV (As := []) (rest := [.ref (A 1)]) ⟨hx, hb, hml, hown, hts⟩ (c_Rotors_patternIn l dC dI Z A _ M) (cwV 0 hts (xw_V _ tw_629 tw_630 tw_631 tw_2 tw_632) rfl rfl rfl (by decide +kernel) ⟨Nat.le_of_ble_eq_true rfl, Nat.le_of_ble_eq_true rfl⟩) ⟨xB_blind, va_recv (q0 := 1) (ci := 5) hK hP rfl rfl, fun U hU hW => ⟨rfl, xB_at hPc hK hDc hq U hU hW⟩⟩ rfl rfl hl.1 rfl (lv_room (Nat.le_of_ble_eq_true rfl)) d_Run_readPattern_7 ⟨Nat.le_of_ble_eq_true rfl, Nat.le_of_ble_eq_true rfl⟩) ?_
  refine lv_topi (fun z1 hz1 => ?_)
  have hPc := hP.sub (ws' := [(A 1, xc1 Z A M), (A 2, xc2 Z A M)]) [1, 2] rfl
  have hDc := hD.sub (ws' := [(A 1, xc1 Z A M), (A 2, xc2 Z A M)]) [1, 2] (by decide) rfl
  refine xk_p (va_runV (As := [.int z1]) (rest := []) ⟨hx, hb, hml, hown, hts⟩ (c_Rotors_withPattern l dC dI Z A _ M z1) (cwV 1 hts (xw_V _ tw_633 tw_350 tw_351 tw_2 tw_352) rfl rfl rfl (by decide +kernel) ⟨Nat.le_of_ble_eq_true rfl, Nat.le_of_ble_eq_true rfl⟩) ⟨xB_blind, va_recv (q0 := 1) (ci := 5) hK hP rfl rfl, fun U hU hW => ⟨rfl, xB_at hPc hK hDc hq U hU hW⟩⟩ rfl rfl hl.1 rfl (lv_room (Nat.le_of_ble_eq_true rfl)) d_Run_readPattern_10 ⟨Nat.le_of_ble_eq_true rfl, Nat.le_of_ble_eq_true rfl⟩) ?_
  refine lv_topi (fun z3 hz3 => ?_)
  refine lv_istore_n (lv' := [(2, .int z3), (0, .ref (A 19)), (1, .ref (A 1))]) hx hb d_Run_readPattern_13 rfl hl (by decide) rfl (fun ls hl => ?_)
  refine lv_iload_n hx hb d_Run_readPattern_14 rfl (lv_at hl 0 rfl) ?_
  refine lv_iconst (v := (-1)) hx hb d_Run_readPattern_15 (by decide) ?_
  refine lv_icmp_eq (tgt := 35) hx hb d_Run_readPattern_16 rfl (fun h5 => ?_) (fun h5 => ?_)
  · refine lv_aload_n hx hb d_Run_readPattern_35 rfl (lv_at hl 1 rfl) ?_
    refine lv_iconst (v := 1) hx hb d_Run_readPattern_36 (by decide) ?_
    refine va_put (D := (dC, dI)) (ci := 6) (v := .int 1) (ty := .boolean) (C := "CentrifugeUnit$Run") (T := xF6) (N := 8) hx hb htt xin6 xT6 xTo6 xNm6 hown hK hP hD hS 0 rfl rfl 3 (by decide) (htt _ tw_202) (fun _ h9 => h9) rfl (by decide +kernel) rfl rfl (Nat.le_of_ble_eq_true rfl) d_Run_readPattern_37 (fun H locs hP hD hS => ?_)
    have hP : va_P (dC, dI) xcl [(A 19, .inr (6, [.long (M.2.1 1), .long 0, .int (M.1 23), .int 1, .int (M.1 25), .int (M.1 26), .int (M.1 27), .int (M.1 28)])), (A 1, .inr (5, [.ref (A 2), .ref (A 3), .ref (A 4), .ref (A 5), .int (M.1 0)])), (A 2, .inl (Z 0, 4, .inl (M.2.2.1 2)))] H := hP
    have hD : va_D AA [(A 19, .inr (6, [.long (M.2.1 1), .long 0, .int (M.1 23), .int 1, .int (M.1 25), .int (M.1 26), .int (M.1 27), .int (M.1 28)])), (A 1, .inr (5, [.ref (A 2), .ref (A 3), .ref (A 4), .ref (A 5), .int (M.1 0)])), (A 2, .inl (Z 0, 4, .inl (M.2.2.1 2)))] := hD
    refine lv_goto (tgt := 48) hx hb d_Run_readPattern_40 rfl ?_
    have hP9 := hP.sub (ws' := [(A 19, xc19 Z A (ap_Run_readPattern M (0, 1, (M.1 23)))), (A 1, xc1 Z A (ap_Run_readPattern M (0, 1, (M.1 23)))), (A 2, xc2 Z A (ap_Run_readPattern M (0, 1, (M.1 23))))]) [0, 1, 2] rfl
    have hD9 := hD.sub (ws' := [(A 19, xc19 Z A (ap_Run_readPattern M (0, 1, (M.1 23)))), (A 1, xc1 Z A (ap_Run_readPattern M (0, 1, (M.1 23)))), (A 2, xc2 Z A (ap_Run_readPattern M (0, 1, (M.1 23))))]) [0, 1, 2] (by decide) rfl
    exact W.vret hx hb hr (fun t ht hW => ⟨⟨(0, 1, (M.1 23)), rfl, (by rw [F_Run_readPattern, ← hz1, F_Run_readPattern_k2, ← hz3, F_Run_readPattern_k4, if_pos h5]), xE_at hP9 hK hD9 ht hW⟩, hS.F ht⟩) hS.2.2 d_Run_readPattern_48
  · refine lv_aload_n hx hb d_Run_readPattern_19 rfl (lv_at hl 1 rfl) ?_
    refine va_get (D := (dC, dI)) (ci := 6) (v := .int (M.1 23)) (C := "CentrifugeUnit$Run") (T := xF6) (N := 8) hx hb htt xin6 hown hK hP 0 rfl rfl 2 (by decide) (htt _ tw_199) (fun _ h9 => h9) rfl d_Run_readPattern_20 ?_
    refine lv_iconst (v := (-1)) hx hb d_Run_readPattern_23 (by decide) ?_
    refine lv_icmp_eq (tgt := 43) hx hb d_Run_readPattern_24 rfl (fun h6 => ?_) (fun h6 => ?_)
    · refine lv_aload_n hx hb d_Run_readPattern_43 rfl (lv_at hl 1 rfl) ?_
      refine lv_iload_n hx hb d_Run_readPattern_44 rfl (lv_at hl 0 rfl) ?_
      refine va_put (D := (dC, dI)) (ci := 6) (v := .int z3) (ty := .int) (C := "CentrifugeUnit$Run") (T := xF6) (N := 8) hx hb htt xin6 xT6 xTo6 xNm6 hown hK hP hD hS 0 rfl rfl 2 (by decide) (htt _ tw_199) (fun _ h9 => h9) rfl (by decide +kernel) rfl rfl (Nat.le_of_ble_eq_true rfl) d_Run_readPattern_45 (fun H locs hP hD hS => ?_)
      have hP : va_P (dC, dI) xcl [(A 19, .inr (6, [.long (M.2.1 1), .long 0, .int z3, .int (M.1 24), .int (M.1 25), .int (M.1 26), .int (M.1 27), .int (M.1 28)])), (A 1, .inr (5, [.ref (A 2), .ref (A 3), .ref (A 4), .ref (A 5), .int (M.1 0)])), (A 2, .inl (Z 0, 4, .inl (M.2.2.1 2)))] H := hP
      have hD : va_D AA [(A 19, .inr (6, [.long (M.2.1 1), .long 0, .int z3, .int (M.1 24), .int (M.1 25), .int (M.1 26), .int (M.1 27), .int (M.1 28)])), (A 1, .inr (5, [.ref (A 2), .ref (A 3), .ref (A 4), .ref (A 5), .int (M.1 0)])), (A 2, .inl (Z 0, 4, .inl (M.2.2.1 2)))] := hD
      have hP9 := hP.sub (ws' := [(A 19, xc19 Z A (ap_Run_readPattern M (0, (M.1 24), z3))), (A 1, xc1 Z A (ap_Run_readPattern M (0, (M.1 24), z3))), (A 2, xc2 Z A (ap_Run_readPattern M (0, (M.1 24), z3)))]) [0, 1, 2] rfl
      have hD9 := hD.sub (ws' := [(A 19, xc19 Z A (ap_Run_readPattern M (0, (M.1 24), z3))), (A 1, xc1 Z A (ap_Run_readPattern M (0, (M.1 24), z3))), (A 2, xc2 Z A (ap_Run_readPattern M (0, (M.1 24), z3)))]) [0, 1, 2] (by decide) rfl
      exact W.vret hx hb hr (fun t ht hW => ⟨⟨(0, (M.1 24), z3), rfl, (by rw [F_Run_readPattern, ← hz1, F_Run_readPattern_k2, ← hz3, F_Run_readPattern_k4, if_neg h5, if_pos h6]), xE_at hP9 hK hD9 ht hW⟩, hS.F ht⟩) hS.2.2 d_Run_readPattern_48
    · refine lv_iload_n hx hb d_Run_readPattern_27 rfl (lv_at hl 0 rfl) ?_
      refine lv_aload_n hx hb d_Run_readPattern_28 rfl (lv_at hl 1 rfl) ?_
      refine va_get (D := (dC, dI)) (ci := 6) (v := .int (M.1 23)) (C := "CentrifugeUnit$Run") (T := xF6) (N := 8) hx hb htt xin6 hown hK hP 0 rfl rfl 2 (by decide) (htt _ tw_199) (fun _ h9 => h9) rfl d_Run_readPattern_29 ?_
      refine lv_icmp_eq (tgt := 43) hx hb d_Run_readPattern_32 rfl (fun h7 => ?_) (fun h7 => ?_)
      · refine lv_aload_n hx hb d_Run_readPattern_43 rfl (lv_at hl 1 rfl) ?_
        refine lv_iload_n hx hb d_Run_readPattern_44 rfl (lv_at hl 0 rfl) ?_
        refine va_put (D := (dC, dI)) (ci := 6) (v := .int z3) (ty := .int) (C := "CentrifugeUnit$Run") (T := xF6) (N := 8) hx hb htt xin6 xT6 xTo6 xNm6 hown hK hP hD hS 0 rfl rfl 2 (by decide) (htt _ tw_199) (fun _ h9 => h9) rfl (by decide +kernel) rfl rfl (Nat.le_of_ble_eq_true rfl) d_Run_readPattern_45 (fun H locs hP hD hS => ?_)
        have hP : va_P (dC, dI) xcl [(A 19, .inr (6, [.long (M.2.1 1), .long 0, .int z3, .int (M.1 24), .int (M.1 25), .int (M.1 26), .int (M.1 27), .int (M.1 28)])), (A 1, .inr (5, [.ref (A 2), .ref (A 3), .ref (A 4), .ref (A 5), .int (M.1 0)])), (A 2, .inl (Z 0, 4, .inl (M.2.2.1 2)))] H := hP
        have hD : va_D AA [(A 19, .inr (6, [.long (M.2.1 1), .long 0, .int z3, .int (M.1 24), .int (M.1 25), .int (M.1 26), .int (M.1 27), .int (M.1 28)])), (A 1, .inr (5, [.ref (A 2), .ref (A 3), .ref (A 4), .ref (A 5), .int (M.1 0)])), (A 2, .inl (Z 0, 4, .inl (M.2.2.1 2)))] := hD
        have hP9 := hP.sub (ws' := [(A 19, xc19 Z A (ap_Run_readPattern M (0, (M.1 24), z3))), (A 1, xc1 Z A (ap_Run_readPattern M (0, (M.1 24), z3))), (A 2, xc2 Z A (ap_Run_readPattern M (0, (M.1 24), z3)))]) [0, 1, 2] rfl
        have hD9 := hD.sub (ws' := [(A 19, xc19 Z A (ap_Run_readPattern M (0, (M.1 24), z3))), (A 1, xc1 Z A (ap_Run_readPattern M (0, (M.1 24), z3))), (A 2, xc2 Z A (ap_Run_readPattern M (0, (M.1 24), z3)))]) [0, 1, 2] (by decide) rfl
        exact W.vret hx hb hr (fun t ht hW => ⟨⟨(0, (M.1 24), z3), rfl, (by rw [F_Run_readPattern, ← hz1, F_Run_readPattern_k2, ← hz3, F_Run_readPattern_k4, if_neg h5, if_neg h6, if_pos h7]), xE_at hP9 hK hD9 ht hW⟩, hS.F ht⟩) hS.2.2 d_Run_readPattern_48
      · refine lv_aload_n hx hb d_Run_readPattern_35 rfl (lv_at hl 1 rfl) ?_
        refine lv_iconst (v := 1) hx hb d_Run_readPattern_36 (by decide) ?_
        refine va_put (D := (dC, dI)) (ci := 6) (v := .int 1) (ty := .boolean) (C := "CentrifugeUnit$Run") (T := xF6) (N := 8) hx hb htt xin6 xT6 xTo6 xNm6 hown hK hP hD hS 0 rfl rfl 3 (by decide) (htt _ tw_202) (fun _ h9 => h9) rfl (by decide +kernel) rfl rfl (Nat.le_of_ble_eq_true rfl) d_Run_readPattern_37 (fun H locs hP hD hS => ?_)
        have hP : va_P (dC, dI) xcl [(A 19, .inr (6, [.long (M.2.1 1), .long 0, .int (M.1 23), .int 1, .int (M.1 25), .int (M.1 26), .int (M.1 27), .int (M.1 28)])), (A 1, .inr (5, [.ref (A 2), .ref (A 3), .ref (A 4), .ref (A 5), .int (M.1 0)])), (A 2, .inl (Z 0, 4, .inl (M.2.2.1 2)))] H := hP
        have hD : va_D AA [(A 19, .inr (6, [.long (M.2.1 1), .long 0, .int (M.1 23), .int 1, .int (M.1 25), .int (M.1 26), .int (M.1 27), .int (M.1 28)])), (A 1, .inr (5, [.ref (A 2), .ref (A 3), .ref (A 4), .ref (A 5), .int (M.1 0)])), (A 2, .inl (Z 0, 4, .inl (M.2.2.1 2)))] := hD
        refine lv_goto (tgt := 48) hx hb d_Run_readPattern_40 rfl ?_
        have hP9 := hP.sub (ws' := [(A 19, xc19 Z A (ap_Run_readPattern M (0, 1, (M.1 23)))), (A 1, xc1 Z A (ap_Run_readPattern M (0, 1, (M.1 23)))), (A 2, xc2 Z A (ap_Run_readPattern M (0, 1, (M.1 23))))]) [0, 1, 2] rfl
        have hD9 := hD.sub (ws' := [(A 19, xc19 Z A (ap_Run_readPattern M (0, 1, (M.1 23)))), (A 1, xc1 Z A (ap_Run_readPattern M (0, 1, (M.1 23)))), (A 2, xc2 Z A (ap_Run_readPattern M (0, 1, (M.1 23))))]) [0, 1, 2] (by decide) rfl
        exact W.vret hx hb hr (fun t ht hW => ⟨⟨(0, 1, (M.1 23)), rfl, (by rw [F_Run_readPattern, ← hz1, F_Run_readPattern_k2, ← hz3, F_Run_readPattern_k4, if_neg h5, if_neg h6, if_neg h7]), xE_at hP9 hK hD9 ht hW⟩, hS.F ht⟩) hS.2.2 d_Run_readPattern_48
end
section
theorem xhas {M : XM} {x z : Int32} (h : ¬ z = 0) (hz : z = F_Program_has M x) (hc : (M.1 1) ≤ 12) : vp_in x 12 := by
  rw [hz, F_Program_has] at h
  rw [Int32.le_iff_toInt_le] at hc
  split at h
  · exact absurd rfl h
  · rename_i h0
    split at h
    · exact absurd rfl h
    · rename_i h1
      rw [Int32.lt_iff_toInt_lt] at h0
      rw [Int32.le_iff_toInt_le] at h1
      refine xin_of ?_ ?_ <;> simp at h0 h1 hc ⊢ <;> omega
abbrev bc_Control_takesOrders : ByteArray := prog_2_method_2_code
def y_Control_takesOrders : MethodName := ⟨"CentrifugeUnit$Control", "takesOrders", "(I)Z"⟩
theorem d_Control_takesOrders_0 : decode bc_Control_takesOrders 0 = .ok (.aload_n 0, 1) := by decide +kernel
theorem d_Control_takesOrders_1 : decode bc_Control_takesOrders 1 = .ok (.getfield 25, 3) := by decide +kernel
theorem d_Control_takesOrders_4 : decode bc_Control_takesOrders 4 = .ok (.ifCond .eq 15, 3) := by decide +kernel
theorem d_Control_takesOrders_7 : decode bc_Control_takesOrders 7 = .ok (.aload_n 0, 1) := by decide +kernel
theorem d_Control_takesOrders_8 : decode bc_Control_takesOrders 8 = .ok (.getfield 33, 3) := by decide +kernel
theorem d_Control_takesOrders_11 : decode bc_Control_takesOrders 11 = .ok (.iload_n 1, 1) := by decide +kernel
theorem d_Control_takesOrders_12 : decode bc_Control_takesOrders 12 = .ok (.if_icmp .ne 7, 3) := by decide +kernel
theorem d_Control_takesOrders_15 : decode bc_Control_takesOrders 15 = .ok (.iconst 1, 1) := by decide +kernel
theorem d_Control_takesOrders_16 : decode bc_Control_takesOrders 16 = .ok (.goto 4, 3) := by decide +kernel
theorem d_Control_takesOrders_19 : decode bc_Control_takesOrders 19 = .ok (.iconst 0, 1) := by decide +kernel
theorem d_Control_takesOrders_20 : decode bc_Control_takesOrders 20 = .ok (.ireturn, 1) := by decide +kernel
def F_Control_takesOrders (M : XM) (a1 : Int32) : Int32 := (if (M.1 12) = 0 then 0 else (if (M.1 14) = a1 then 1 else 0))
theorem f01_Control_takesOrders (M : XM) (a1 : Int32) : F_Control_takesOrders M a1 = 0 ∨ F_Control_takesOrders M a1 = 1 := by
  simp only [F_Control_takesOrders]; repeat' split
  all_goals first | exact Or.inl rfl | exact Or.inr rfl | simp
set_option maxHeartbeats 4000000 in
set_option maxRecDepth 100000 in
theorem c_Control_takesOrders (l : Launch) (dC : Nat → ClassId) (dI : Nat → Nat → Nat) (Z : Nat → ClassId) (A : Nat → Nat) (sz : Nat) (M : XM) (a1 : Int32) : Met l y_Control_takesOrders (.code y_Control_takesOrders bc_Control_takesOrders 2 (some .boolean) :: xw) ({ frames := 0, cells := 0, slots := 0, locals := 0 }) (va_Pc [.ref (A 17), .int a1] (xB (dC, dI) xcl (xty Z) sz [(A 17, xc17 Z A M)])) (k2_QcV (.int (F_Control_takesOrders M a1))) 0 0 (fun _ => False) := by
  refine Met.ofW (cc := bc_Control_takesOrders) (maxL := 2) (ret := (some .boolean)) (by decide) rfl ?_
  intro p e s m args below meth c s₁ B hml hv
  obtain ⟨rfl, hsz, hP, hK, hD0, hq⟩ := hv
  have hx := B.exec
  have hb := B.bytes
  have hr := B.returns
  have hts := atoms_spec (ws := (.code y_Control_takesOrders bc_Control_takesOrders 2 (some .boolean) :: xw)) B.pre
  have htt : ∀ w ∈ xw, w.before _ s = true := fun w h => hts w (List.mem_cons_of_mem _ h)
  have hown : s.vm.findClass "CentrifugeUnit$Control" = some m.cls := findClass_of_methodNamed B.named
  have hlocks := B.notSynchronized
  subst hsz
  have hD : va_D (fun _ => True) [(A 17, .inr (0, [.ref (A 1), .ref (A 6), .ref (A 11), .ref (A 12), .ref (A 13), .ref (A 18), .ref (A 19), .int (M.1 12), .int (M.1 13), .int (M.1 14), .int (M.1 15), .int (M.1 16), .int (M.1 17), .int (M.1 18)]))] := hD0
  have hP : va_P (dC, dI) xcl [(A 17, .inr (0, [.ref (A 1), .ref (A 6), .ref (A 11), .ref (A 12), .ref (A 13), .ref (A 18), .ref (A 19), .int (M.1 12), .int (M.1 13), .int (M.1 14), .int (M.1 15), .int (M.1 16), .int (M.1 17), .int (M.1 18)]))] s.heap := hP
  have hl := lv_entry ([.ref (A 17), .int a1]) (n := 2) (Nat.le_of_ble_eq_true rfl)
  rw [lg_entry_eq]
  generalize (lg_sl ([.ref (A 17), .int a1]) ++ List.replicate (2 - (lg_sl ([.ref (A 17), .int a1])).length) Slot.unset).toArray = ls at hl ⊢
  have hl : lv_has ls 2 [(0, .ref (A 17)), (1, .int a1)] := hl
  refine lv_aload_n hx hb d_Control_takesOrders_0 rfl (lv_at hl 0 rfl) ?_
  refine va_get (D := (dC, dI)) (ci := 0) (v := .int (M.1 12)) (C := "CentrifugeUnit$Control") (T := xF0) (N := 14) hx hb htt xin0 hown hK hP 0 rfl rfl 7 (by decide) (htt _ tw_240) (fun _ h9 => h9) rfl d_Control_takesOrders_1 ?_
  refine lv_if_eq (tgt := 19) hx hb d_Control_takesOrders_4 rfl (fun h1 => ?_) (fun h1 => ?_)
  · refine lv_iconst (v := 0) hx hb d_Control_takesOrders_19 (by decide) ?_
    exact W.zret (ty := .boolean) hx hb hr rfl (fun t ht hW => ⟨(by rw [F_Control_takesOrders, if_pos h1]), ht⟩) (fun _ h => absurd h List.not_mem_nil) d_Control_takesOrders_20
  · refine lv_aload_n hx hb d_Control_takesOrders_7 rfl (lv_at hl 0 rfl) ?_
    refine va_get (D := (dC, dI)) (ci := 0) (v := .int (M.1 14)) (C := "CentrifugeUnit$Control") (T := xF0) (N := 14) hx hb htt xin0 hown hK hP 0 rfl rfl 9 (by decide) (htt _ tw_244) (fun _ h9 => h9) rfl d_Control_takesOrders_8 ?_
    refine lv_iload_n hx hb d_Control_takesOrders_11 rfl (lv_at hl 1 rfl) ?_
    refine lv_icmp_ne (tgt := 19) hx hb d_Control_takesOrders_12 rfl (fun h2 => ?_) (fun h2 => ?_)
    · refine lv_iconst (v := 0) hx hb d_Control_takesOrders_19 (by decide) ?_
      exact W.zret (ty := .boolean) hx hb hr rfl (fun t ht hW => ⟨(by rw [F_Control_takesOrders, if_neg h1, if_neg h2]), ht⟩) (fun _ h => absurd h List.not_mem_nil) d_Control_takesOrders_20
    · refine lv_iconst (v := 1) hx hb d_Control_takesOrders_15 (by decide) ?_
      refine lv_goto (tgt := 20) hx hb d_Control_takesOrders_16 rfl ?_
      exact W.zret (ty := .boolean) hx hb hr rfl (fun t ht hW => ⟨(by rw [F_Control_takesOrders, if_neg h1, if_pos h2]), ht⟩) (fun _ h => absurd h List.not_mem_nil) d_Control_takesOrders_20
abbrev bc_Control_turning : ByteArray := prog_2_method_8_code
def y_Control_turning : MethodName := ⟨"CentrifugeUnit$Control", "turning", "()Z"⟩
theorem d_Control_turning_0 : decode bc_Control_turning 0 = .ok (.aload_n 0, 1) := by decide +kernel
theorem d_Control_turning_1 : decode bc_Control_turning 1 = .ok (.getfield 33, 3) := by decide +kernel
theorem d_Control_turning_4 : decode bc_Control_turning 4 = .ok (.iconst 1, 1) := by decide +kernel
theorem d_Control_turning_5 : decode bc_Control_turning 5 = .ok (.if_icmp .eq 11, 3) := by decide +kernel
theorem d_Control_turning_8 : decode bc_Control_turning 8 = .ok (.aload_n 0, 1) := by decide +kernel
theorem d_Control_turning_9 : decode bc_Control_turning 9 = .ok (.getfield 33, 3) := by decide +kernel
theorem d_Control_turning_12 : decode bc_Control_turning 12 = .ok (.iconst 2, 1) := by decide +kernel
theorem d_Control_turning_13 : decode bc_Control_turning 13 = .ok (.if_icmp .ne 7, 3) := by decide +kernel
theorem d_Control_turning_16 : decode bc_Control_turning 16 = .ok (.iconst 1, 1) := by decide +kernel
theorem d_Control_turning_17 : decode bc_Control_turning 17 = .ok (.goto 4, 3) := by decide +kernel
theorem d_Control_turning_20 : decode bc_Control_turning 20 = .ok (.iconst 0, 1) := by decide +kernel
theorem d_Control_turning_21 : decode bc_Control_turning 21 = .ok (.ireturn, 1) := by decide +kernel
def F_Control_turning (M : XM) : Int32 := (if (M.1 14) = 1 then 1 else (if (M.1 14) = 2 then 1 else 0))
theorem f01_Control_turning (M : XM) : F_Control_turning M = 0 ∨ F_Control_turning M = 1 := by
  simp only [F_Control_turning]; repeat' split
  all_goals first | exact Or.inl rfl | exact Or.inr rfl | simp
set_option maxHeartbeats 4000000 in
set_option maxRecDepth 100000 in
theorem c_Control_turning (l : Launch) (dC : Nat → ClassId) (dI : Nat → Nat → Nat) (Z : Nat → ClassId) (A : Nat → Nat) (sz : Nat) (M : XM) : Met l y_Control_turning (.code y_Control_turning bc_Control_turning 1 (some .boolean) :: xw) ({ frames := 0, cells := 0, slots := 0, locals := 0 }) (va_Pc [.ref (A 17)] (xB (dC, dI) xcl (xty Z) sz [(A 17, xc17 Z A M)])) (k2_QcV (.int (F_Control_turning M))) 0 0 (fun _ => False) := by
  refine Met.ofW (cc := bc_Control_turning) (maxL := 1) (ret := (some .boolean)) (by decide) rfl ?_
  intro p e s m args below meth c s₁ B hml hv
  obtain ⟨rfl, hsz, hP, hK, hD0, hq⟩ := hv
  have hx := B.exec
  have hb := B.bytes
  have hr := B.returns
  have hts := atoms_spec (ws := (.code y_Control_turning bc_Control_turning 1 (some .boolean) :: xw)) B.pre
  have htt : ∀ w ∈ xw, w.before _ s = true := fun w h => hts w (List.mem_cons_of_mem _ h)
  have hown : s.vm.findClass "CentrifugeUnit$Control" = some m.cls := findClass_of_methodNamed B.named
  have hlocks := B.notSynchronized
  subst hsz
  have hD : va_D (fun _ => True) [(A 17, .inr (0, [.ref (A 1), .ref (A 6), .ref (A 11), .ref (A 12), .ref (A 13), .ref (A 18), .ref (A 19), .int (M.1 12), .int (M.1 13), .int (M.1 14), .int (M.1 15), .int (M.1 16), .int (M.1 17), .int (M.1 18)]))] := hD0
  have hP : va_P (dC, dI) xcl [(A 17, .inr (0, [.ref (A 1), .ref (A 6), .ref (A 11), .ref (A 12), .ref (A 13), .ref (A 18), .ref (A 19), .int (M.1 12), .int (M.1 13), .int (M.1 14), .int (M.1 15), .int (M.1 16), .int (M.1 17), .int (M.1 18)]))] s.heap := hP
  have hl := lv_entry ([.ref (A 17)]) (n := 1) (Nat.le_of_ble_eq_true rfl)
  rw [lg_entry_eq]
  generalize (lg_sl ([.ref (A 17)]) ++ List.replicate (1 - (lg_sl ([.ref (A 17)])).length) Slot.unset).toArray = ls at hl ⊢
  have hl : lv_has ls 1 [(0, .ref (A 17))] := hl
  refine lv_aload_n hx hb d_Control_turning_0 rfl (lv_at hl 0 rfl) ?_
  refine va_get (D := (dC, dI)) (ci := 0) (v := .int (M.1 14)) (C := "CentrifugeUnit$Control") (T := xF0) (N := 14) hx hb htt xin0 hown hK hP 0 rfl rfl 9 (by decide) (htt _ tw_244) (fun _ h9 => h9) rfl d_Control_turning_1 ?_
  refine lv_iconst (v := 1) hx hb d_Control_turning_4 (by decide) ?_
  refine lv_icmp_eq (tgt := 16) hx hb d_Control_turning_5 rfl (fun h1 => ?_) (fun h1 => ?_)
  · refine lv_iconst (v := 1) hx hb d_Control_turning_16 (by decide) ?_
    refine lv_goto (tgt := 21) hx hb d_Control_turning_17 rfl ?_
    exact W.zret (ty := .boolean) hx hb hr rfl (fun t ht hW => ⟨(by rw [F_Control_turning, if_pos h1]), ht⟩) (fun _ h => absurd h List.not_mem_nil) d_Control_turning_21
  · refine lv_aload_n hx hb d_Control_turning_8 rfl (lv_at hl 0 rfl) ?_
    refine va_get (D := (dC, dI)) (ci := 0) (v := .int (M.1 14)) (C := "CentrifugeUnit$Control") (T := xF0) (N := 14) hx hb htt xin0 hown hK hP 0 rfl rfl 9 (by decide) (htt _ tw_244) (fun _ h9 => h9) rfl d_Control_turning_9 ?_
    refine lv_iconst (v := 2) hx hb d_Control_turning_12 (by decide) ?_
    refine lv_icmp_ne (tgt := 20) hx hb d_Control_turning_13 rfl (fun h2 => ?_) (fun h2 => ?_)
    · refine lv_iconst (v := 0) hx hb d_Control_turning_20 (by decide) ?_
      exact W.zret (ty := .boolean) hx hb hr rfl (fun t ht hW => ⟨(by rw [F_Control_turning, if_neg h1, if_neg h2]), ht⟩) (fun _ h => absurd h List.not_mem_nil) d_Control_turning_21
    · refine lv_iconst (v := 1) hx hb d_Control_turning_16 (by decide) ?_
      refine lv_goto (tgt := 21) hx hb d_Control_turning_17 rfl ?_
      exact W.zret (ty := .boolean) hx hb hr rfl (fun t ht hW => ⟨(by rw [F_Control_turning, if_neg h1, if_pos h2]), ht⟩) (fun _ h => absurd h List.not_mem_nil) d_Control_turning_21
abbrev bc_Control_beginRun : ByteArray := prog_2_method_3_code
def y_Control_beginRun : MethodName := ⟨"CentrifugeUnit$Control", "beginRun", "()V"⟩
theorem d_Control_beginRun_0 : decode bc_Control_beginRun 0 = .ok (.aload_n 0, 1) := by decide +kernel
theorem d_Control_beginRun_1 : decode bc_Control_beginRun 1 = .ok (.getfield 21, 3) := by decide +kernel
theorem d_Control_beginRun_4 : decode bc_Control_beginRun 4 = .ok (.invokevirtual 59, 3) := by decide +kernel
theorem d_Control_beginRun_7 : decode bc_Control_beginRun 7 = .ok (.aload_n 0, 1) := by decide +kernel
theorem d_Control_beginRun_8 : decode bc_Control_beginRun 8 = .ok (.iconst 0, 1) := by decide +kernel
theorem d_Control_beginRun_9 : decode bc_Control_beginRun 9 = .ok (.putfield 36, 3) := by decide +kernel
theorem d_Control_beginRun_12 : decode bc_Control_beginRun 12 = .ok (.aload_n 0, 1) := by decide +kernel
theorem d_Control_beginRun_13 : decode bc_Control_beginRun 13 = .ok (.iconst 1, 1) := by decide +kernel
theorem d_Control_beginRun_14 : decode bc_Control_beginRun 14 = .ok (.putfield 33, 3) := by decide +kernel
theorem d_Control_beginRun_17 : decode bc_Control_beginRun 17 = .ok (.return_, 1) := by decide +kernel
abbrev ap_Control_beginRun (M : XM) (u : (Int64 × Int64 × Int32 × Int32 × Int32 × Int32 × Int32 × Int32 × Int32 × Int32)) : XM := ((va_up (va_up (va_up (va_up (va_up (va_up (va_up (va_up M.1 23 (u.2.2.1)) 24 (u.2.2.2.1)) 25 (u.2.2.2.2.1)) 26 (u.2.2.2.2.2.1)) 27 (u.2.2.2.2.2.2.1)) 28 (u.2.2.2.2.2.2.2.1)) 15 (u.2.2.2.2.2.2.2.2.1)) 14 (u.2.2.2.2.2.2.2.2.2)), (va_up (va_up M.2.1 1 (u.1)) 2 (u.2.1)), M.2.2)
def F_Control_beginRun_k2 (M : XM) (u1 : (Int64 × Int64 × Int32 × Int32 × Int32 × Int32 × Int32 × Int32)) : (Int64 × Int64 × Int32 × Int32 × Int32 × Int32 × Int32 × Int32 × Int32 × Int32) := ((u1.1), (u1.2.1), (u1.2.2.1), (u1.2.2.2.1), (u1.2.2.2.2.1), (u1.2.2.2.2.2.1), (u1.2.2.2.2.2.2.1), (u1.2.2.2.2.2.2.2), 0, 1)
def F_Control_beginRun (M : XM) : (Int64 × Int64 × Int32 × Int32 × Int32 × Int32 × Int32 × Int32 × Int32 × Int32) := (F_Control_beginRun_k2 M (F_Run_begin M))
set_option maxHeartbeats 4000000 in
set_option maxRecDepth 100000 in
theorem c_Control_beginRun (l : Launch) (dC : Nat → ClassId) (dI : Nat → Nat → Nat) (Z : Nat → ClassId) (A : Nat → Nat) (sz : Nat) (M : XM) : Met l y_Control_beginRun (.code y_Control_beginRun bc_Control_beginRun 1 none :: xw) ({ frames := 1, cells := 0, slots := 0, locals := 20 }) (va_Pc [.ref (A 17)] (xB (dC, dI) xcl (xty Z) sz [(A 17, xc17 Z A M), (A 19, xc19 Z A M)])) (va_Qv (fun u : (Int64 × Int64 × Int32 × Int32 × Int32 × Int32 × Int32 × Int32 × Int32 × Int32) => u = F_Control_beginRun M) (fun u => xE (dC, dI) xcl (xty Z) (va_A [(A 17, xc17 Z A M), (A 19, xc19 Z A M)] sz) [(A 17, xc17 Z A (ap_Control_beginRun M u)), (A 19, xc19 Z A (ap_Control_beginRun M u))]) (va_A [(A 17, xc17 Z A M), (A 19, xc19 Z A M)] sz)) 0 0 (va_A [(A 17, xc17 Z A M), (A 19, xc19 Z A M)] sz) := by
  refine Met.ofW (cc := bc_Control_beginRun) (maxL := 1) (ret := none) (by decide) rfl ?_
  intro p e s m args below meth c s₁ B hml hv
  obtain ⟨rfl, hsz, hP, hK, hD0, hq⟩ := hv
  have hx := B.exec
  have hb := B.bytes
  have hr := B.returns
  have hts := atoms_spec (ws := (.code y_Control_beginRun bc_Control_beginRun 1 none :: xw)) B.pre
  have htt : ∀ w ∈ xw, w.before _ s = true := fun w h => hts w (List.mem_cons_of_mem _ h)
  have hown : s.vm.findClass "CentrifugeUnit$Control" = some m.cls := findClass_of_methodNamed B.named
  have hlocks := B.notSynchronized
  subst hsz
  have hD := hD0.self (sz := s.heap.size)
  generalize hAe : va_A [(A 17, xc17 Z A M), (A 19, xc19 Z A M)] s.heap.size = AA at hD ⊢
  have hA : ∀ q : Nat, s.heap.size ≤ q → AA q := fun q h => by rw [← hAe]; exact Or.inr h
  have hS : va_S AA s.heap s.heap [] := va_S.rf
  have hP : va_P (dC, dI) xcl [(A 17, .inr (0, [.ref (A 1), .ref (A 6), .ref (A 11), .ref (A 12), .ref (A 13), .ref (A 18), .ref (A 19), .int (M.1 12), .int (M.1 13), .int (M.1 14), .int (M.1 15), .int (M.1 16), .int (M.1 17), .int (M.1 18)])), (A 19, .inr (6, [.long (M.2.1 1), .long (M.2.1 2), .int (M.1 23), .int (M.1 24), .int (M.1 25), .int (M.1 26), .int (M.1 27), .int (M.1 28)]))] s.heap := hP
  have hD : va_D AA [(A 17, .inr (0, [.ref (A 1), .ref (A 6), .ref (A 11), .ref (A 12), .ref (A 13), .ref (A 18), .ref (A 19), .int (M.1 12), .int (M.1 13), .int (M.1 14), .int (M.1 15), .int (M.1 16), .int (M.1 17), .int (M.1 18)])), (A 19, .inr (6, [.long (M.2.1 1), .long (M.2.1 2), .int (M.1 23), .int (M.1 24), .int (M.1 25), .int (M.1 26), .int (M.1 27), .int (M.1 28)]))] := hD
  have hl := lv_entry ([.ref (A 17)]) (n := 1) (Nat.le_of_ble_eq_true rfl)
  rw [lg_entry_eq]
  generalize (lg_sl ([.ref (A 17)]) ++ List.replicate (1 - (lg_sl ([.ref (A 17)])).length) Slot.unset).toArray = ls at hl ⊢
  have hl : lv_has ls 1 [(0, .ref (A 17))] := hl
  refine lv_aload_n hx hb d_Control_beginRun_0 rfl (lv_at hl 0 rfl) ?_
  refine va_get (D := (dC, dI)) (ci := 0) (v := .ref (A 19)) (C := "CentrifugeUnit$Control") (T := xF0) (N := 14) hx hb htt xin0 hown hK hP 0 rfl rfl 6 (by decide) (htt _ tw_238) (fun _ h9 => h9) rfl d_Control_beginRun_1 ?_
  have hPc := hP.sub (ws' := [(A 19, xc19 Z A M)]) [1] rfl
  have hDc := hD.sub (ws' := [(A 19, xc19 Z A M)]) [1] (by decide) rfl
  refine xk_v (wc := [(A 19, xc19 Z A M)]) (wr := [(A 17, .inr (0, [.ref (A 1), .ref (A 6), .ref (A 11), .ref (A 12), .ref (A 13), .ref (A 18), .ref (A 19), .int (M.1 12), .int (M.1 13), .int (M.1 14), .int (M.1 15), .int (M.1 16), .int (M.1 17), .int (M.1 18)]))]) (va_runV (As := []) (rest := []) ⟨hx, hb, hml, hown, hts⟩ (c_Run_begin l dC dI Z A _ M) (cwV 0 hts (xw_V _ tw_494 tw_495 tw_496 tw_11 tw_497) rfl rfl rfl (by decide +kernel) ⟨Nat.le_of_ble_eq_true rfl, Nat.le_of_ble_eq_true rfl⟩) ⟨xB_blind, va_recv (q0 := 1) (ci := 6) hK hP rfl rfl, fun U hU hW => ⟨rfl, xB_at hPc hK hDc hq U hU hW⟩⟩ rfl rfl hl.1 rfl (lv_room (Nat.le_of_ble_eq_true rfl)) d_Control_beginRun_4 ⟨Nat.le_of_ble_eq_true rfl, Nat.le_of_ble_eq_true rfl⟩) hP hD hS hA [1] [0] rfl rfl (by decide) (by decide) (fun u1 H locs hu1 hP hD hS => ?_)
  have hP : va_P (dC, dI) xcl [(A 17, .inr (0, [.ref (A 1), .ref (A 6), .ref (A 11), .ref (A 12), .ref (A 13), .ref (A 18), .ref (A 19), .int (M.1 12), .int (M.1 13), .int (M.1 14), .int (M.1 15), .int (M.1 16), .int (M.1 17), .int (M.1 18)])), (A 19, .inr (6, [.long (u1.1), .long (u1.2.1), .int (u1.2.2.1), .int (u1.2.2.2.1), .int (u1.2.2.2.2.1), .int (u1.2.2.2.2.2.1), .int (u1.2.2.2.2.2.2.1), .int (u1.2.2.2.2.2.2.2)]))] H := hP
  have hD : va_D AA [(A 17, .inr (0, [.ref (A 1), .ref (A 6), .ref (A 11), .ref (A 12), .ref (A 13), .ref (A 18), .ref (A 19), .int (M.1 12), .int (M.1 13), .int (M.1 14), .int (M.1 15), .int (M.1 16), .int (M.1 17), .int (M.1 18)])), (A 19, .inr (6, [.long (u1.1), .long (u1.2.1), .int (u1.2.2.1), .int (u1.2.2.2.1), .int (u1.2.2.2.2.1), .int (u1.2.2.2.2.2.1), .int (u1.2.2.2.2.2.2.1), .int (u1.2.2.2.2.2.2.2)]))] := hD
  refine lv_aload_n hx hb d_Control_beginRun_7 rfl (lv_at hl 0 rfl) ?_
  refine lv_iconst (v := 0) hx hb d_Control_beginRun_8 (by decide) ?_
  refine va_put (D := (dC, dI)) (ci := 0) (v := .int 0) (ty := .int) (C := "CentrifugeUnit$Control") (T := xF0) (N := 14) hx hb htt xin0 xT0 xTo0 xNm0 hown hK hP hD hS 0 rfl rfl 10 (by decide) (htt _ tw_246) (fun _ h9 => h9) rfl (by decide +kernel) rfl rfl (Nat.le_of_ble_eq_true rfl) d_Control_beginRun_9 (fun H locs hP hD hS => ?_)
  have hP : va_P (dC, dI) xcl [(A 17, .inr (0, [.ref (A 1), .ref (A 6), .ref (A 11), .ref (A 12), .ref (A 13), .ref (A 18), .ref (A 19), .int (M.1 12), .int (M.1 13), .int (M.1 14), .int 0, .int (M.1 16), .int (M.1 17), .int (M.1 18)])), (A 19, .inr (6, [.long (u1.1), .long (u1.2.1), .int (u1.2.2.1), .int (u1.2.2.2.1), .int (u1.2.2.2.2.1), .int (u1.2.2.2.2.2.1), .int (u1.2.2.2.2.2.2.1), .int (u1.2.2.2.2.2.2.2)]))] H := hP
  have hD : va_D AA [(A 17, .inr (0, [.ref (A 1), .ref (A 6), .ref (A 11), .ref (A 12), .ref (A 13), .ref (A 18), .ref (A 19), .int (M.1 12), .int (M.1 13), .int (M.1 14), .int 0, .int (M.1 16), .int (M.1 17), .int (M.1 18)])), (A 19, .inr (6, [.long (u1.1), .long (u1.2.1), .int (u1.2.2.1), .int (u1.2.2.2.1), .int (u1.2.2.2.2.1), .int (u1.2.2.2.2.2.1), .int (u1.2.2.2.2.2.2.1), .int (u1.2.2.2.2.2.2.2)]))] := hD
  refine lv_aload_n hx hb d_Control_beginRun_12 rfl (lv_at hl 0 rfl) ?_
  refine lv_iconst (v := 1) hx hb d_Control_beginRun_13 (by decide) ?_
  refine va_put (D := (dC, dI)) (ci := 0) (v := .int 1) (ty := .int) (C := "CentrifugeUnit$Control") (T := xF0) (N := 14) hx hb htt xin0 xT0 xTo0 xNm0 hown hK hP hD hS 0 rfl rfl 9 (by decide) (htt _ tw_244) (fun _ h9 => h9) rfl (by decide +kernel) rfl rfl (Nat.le_of_ble_eq_true rfl) d_Control_beginRun_14 (fun H locs hP hD hS => ?_)
  have hP : va_P (dC, dI) xcl [(A 17, .inr (0, [.ref (A 1), .ref (A 6), .ref (A 11), .ref (A 12), .ref (A 13), .ref (A 18), .ref (A 19), .int (M.1 12), .int (M.1 13), .int 1, .int 0, .int (M.1 16), .int (M.1 17), .int (M.1 18)])), (A 19, .inr (6, [.long (u1.1), .long (u1.2.1), .int (u1.2.2.1), .int (u1.2.2.2.1), .int (u1.2.2.2.2.1), .int (u1.2.2.2.2.2.1), .int (u1.2.2.2.2.2.2.1), .int (u1.2.2.2.2.2.2.2)]))] H := hP
  have hD : va_D AA [(A 17, .inr (0, [.ref (A 1), .ref (A 6), .ref (A 11), .ref (A 12), .ref (A 13), .ref (A 18), .ref (A 19), .int (M.1 12), .int (M.1 13), .int 1, .int 0, .int (M.1 16), .int (M.1 17), .int (M.1 18)])), (A 19, .inr (6, [.long (u1.1), .long (u1.2.1), .int (u1.2.2.1), .int (u1.2.2.2.1), .int (u1.2.2.2.2.1), .int (u1.2.2.2.2.2.1), .int (u1.2.2.2.2.2.2.1), .int (u1.2.2.2.2.2.2.2)]))] := hD
  have hP9 := hP.sub (ws' := [(A 17, xc17 Z A (ap_Control_beginRun M ((u1.1), (u1.2.1), (u1.2.2.1), (u1.2.2.2.1), (u1.2.2.2.2.1), (u1.2.2.2.2.2.1), (u1.2.2.2.2.2.2.1), (u1.2.2.2.2.2.2.2), 0, 1))), (A 19, xc19 Z A (ap_Control_beginRun M ((u1.1), (u1.2.1), (u1.2.2.1), (u1.2.2.2.1), (u1.2.2.2.2.1), (u1.2.2.2.2.2.1), (u1.2.2.2.2.2.2.1), (u1.2.2.2.2.2.2.2), 0, 1)))]) [0, 1] rfl
  have hD9 := hD.sub (ws' := [(A 17, xc17 Z A (ap_Control_beginRun M ((u1.1), (u1.2.1), (u1.2.2.1), (u1.2.2.2.1), (u1.2.2.2.2.1), (u1.2.2.2.2.2.1), (u1.2.2.2.2.2.2.1), (u1.2.2.2.2.2.2.2), 0, 1))), (A 19, xc19 Z A (ap_Control_beginRun M ((u1.1), (u1.2.1), (u1.2.2.1), (u1.2.2.2.1), (u1.2.2.2.2.1), (u1.2.2.2.2.2.1), (u1.2.2.2.2.2.2.1), (u1.2.2.2.2.2.2.2), 0, 1)))]) [0, 1] (by decide) rfl
  exact W.vret hx hb hr (fun t ht hW => ⟨⟨((u1.1), (u1.2.1), (u1.2.2.1), (u1.2.2.2.1), (u1.2.2.2.2.1), (u1.2.2.2.2.2.1), (u1.2.2.2.2.2.2.1), (u1.2.2.2.2.2.2.2), 0, 1), rfl, (by rw [F_Control_beginRun, ← hu1, F_Control_beginRun_k2]), xE_at hP9 hK hD9 ht hW⟩, hS.F ht⟩) hS.2.2 d_Control_beginRun_17
abbrev bc_Control_beginStopping : ByteArray := prog_2_method_4_code
def y_Control_beginStopping : MethodName := ⟨"CentrifugeUnit$Control", "beginStopping", "(I)V"⟩
theorem d_Control_beginStopping_0 : decode bc_Control_beginStopping 0 = .ok (.aload_n 0, 1) := by decide +kernel
theorem d_Control_beginStopping_1 : decode bc_Control_beginStopping 1 = .ok (.iconst 2, 1) := by decide +kernel
theorem d_Control_beginStopping_2 : decode bc_Control_beginStopping 2 = .ok (.putfield 33, 3) := by decide +kernel
theorem d_Control_beginStopping_5 : decode bc_Control_beginStopping 5 = .ok (.aload_n 0, 1) := by decide +kernel
theorem d_Control_beginStopping_6 : decode bc_Control_beginStopping 6 = .ok (.iload_n 1, 1) := by decide +kernel
theorem d_Control_beginStopping_7 : decode bc_Control_beginStopping 7 = .ok (.putfield 36, 3) := by decide +kernel
theorem d_Control_beginStopping_10 : decode bc_Control_beginStopping 10 = .ok (.return_, 1) := by decide +kernel
abbrev ap_Control_beginStopping (M : XM) (u : (Int32 × Int32)) : XM := ((va_up (va_up M.1 14 (u.1)) 15 (u.2)), M.2)
def F_Control_beginStopping (M : XM) (a1 : Int32) : (Int32 × Int32) := (2, a1)
set_option maxHeartbeats 4000000 in
set_option maxRecDepth 100000 in
theorem c_Control_beginStopping (l : Launch) (dC : Nat → ClassId) (dI : Nat → Nat → Nat) (Z : Nat → ClassId) (A : Nat → Nat) (sz : Nat) (M : XM) (a1 : Int32) : Met l y_Control_beginStopping (.code y_Control_beginStopping bc_Control_beginStopping 2 none :: xw) ({ frames := 0, cells := 0, slots := 0, locals := 0 }) (va_Pc [.ref (A 17), .int a1] (xB (dC, dI) xcl (xty Z) sz [(A 17, xc17 Z A M)])) (va_Qv (fun u : (Int32 × Int32) => u = F_Control_beginStopping M a1) (fun u => xE (dC, dI) xcl (xty Z) (va_A [(A 17, xc17 Z A M)] sz) [(A 17, xc17 Z A (ap_Control_beginStopping M u))]) (va_A [(A 17, xc17 Z A M)] sz)) 0 0 (va_A [(A 17, xc17 Z A M)] sz) := by
  refine Met.ofW (cc := bc_Control_beginStopping) (maxL := 2) (ret := none) (by decide) rfl ?_
  intro p e s m args below meth c s₁ B hml hv
  obtain ⟨rfl, hsz, hP, hK, hD0, hq⟩ := hv
  have hx := B.exec
  have hb := B.bytes
  have hr := B.returns
  have hts := atoms_spec (ws := (.code y_Control_beginStopping bc_Control_beginStopping 2 none :: xw)) B.pre
  have htt : ∀ w ∈ xw, w.before _ s = true := fun w h => hts w (List.mem_cons_of_mem _ h)
  have hown : s.vm.findClass "CentrifugeUnit$Control" = some m.cls := findClass_of_methodNamed B.named
  have hlocks := B.notSynchronized
  subst hsz
  have hD := hD0.self (sz := s.heap.size)
  generalize hAe : va_A [(A 17, xc17 Z A M)] s.heap.size = AA at hD ⊢
  have hA : ∀ q : Nat, s.heap.size ≤ q → AA q := fun q h => by rw [← hAe]; exact Or.inr h
  have hS : va_S AA s.heap s.heap [] := va_S.rf
  have hP : va_P (dC, dI) xcl [(A 17, .inr (0, [.ref (A 1), .ref (A 6), .ref (A 11), .ref (A 12), .ref (A 13), .ref (A 18), .ref (A 19), .int (M.1 12), .int (M.1 13), .int (M.1 14), .int (M.1 15), .int (M.1 16), .int (M.1 17), .int (M.1 18)]))] s.heap := hP
  have hD : va_D AA [(A 17, .inr (0, [.ref (A 1), .ref (A 6), .ref (A 11), .ref (A 12), .ref (A 13), .ref (A 18), .ref (A 19), .int (M.1 12), .int (M.1 13), .int (M.1 14), .int (M.1 15), .int (M.1 16), .int (M.1 17), .int (M.1 18)]))] := hD
  have hl := lv_entry ([.ref (A 17), .int a1]) (n := 2) (Nat.le_of_ble_eq_true rfl)
  rw [lg_entry_eq]
  generalize (lg_sl ([.ref (A 17), .int a1]) ++ List.replicate (2 - (lg_sl ([.ref (A 17), .int a1])).length) Slot.unset).toArray = ls at hl ⊢
  have hl : lv_has ls 2 [(0, .ref (A 17)), (1, .int a1)] := hl
  refine lv_aload_n hx hb d_Control_beginStopping_0 rfl (lv_at hl 0 rfl) ?_
  refine lv_iconst (v := 2) hx hb d_Control_beginStopping_1 (by decide) ?_
  refine va_put (D := (dC, dI)) (ci := 0) (v := .int 2) (ty := .int) (C := "CentrifugeUnit$Control") (T := xF0) (N := 14) hx hb htt xin0 xT0 xTo0 xNm0 hown hK hP hD hS 0 rfl rfl 9 (by decide) (htt _ tw_244) (fun _ h9 => h9) rfl (by decide +kernel) rfl rfl (Nat.le_of_ble_eq_true rfl) d_Control_beginStopping_2 (fun H locs hP hD hS => ?_)
  have hP : va_P (dC, dI) xcl [(A 17, .inr (0, [.ref (A 1), .ref (A 6), .ref (A 11), .ref (A 12), .ref (A 13), .ref (A 18), .ref (A 19), .int (M.1 12), .int (M.1 13), .int 2, .int (M.1 15), .int (M.1 16), .int (M.1 17), .int (M.1 18)]))] H := hP
  have hD : va_D AA [(A 17, .inr (0, [.ref (A 1), .ref (A 6), .ref (A 11), .ref (A 12), .ref (A 13), .ref (A 18), .ref (A 19), .int (M.1 12), .int (M.1 13), .int 2, .int (M.1 15), .int (M.1 16), .int (M.1 17), .int (M.1 18)]))] := hD
  refine lv_aload_n hx hb d_Control_beginStopping_5 rfl (lv_at hl 0 rfl) ?_
  refine lv_iload_n hx hb d_Control_beginStopping_6 rfl (lv_at hl 1 rfl) ?_
  refine va_put (D := (dC, dI)) (ci := 0) (v := .int a1) (ty := .int) (C := "CentrifugeUnit$Control") (T := xF0) (N := 14) hx hb htt xin0 xT0 xTo0 xNm0 hown hK hP hD hS 0 rfl rfl 10 (by decide) (htt _ tw_246) (fun _ h9 => h9) rfl (by decide +kernel) rfl rfl (Nat.le_of_ble_eq_true rfl) d_Control_beginStopping_7 (fun H locs hP hD hS => ?_)
  have hP : va_P (dC, dI) xcl [(A 17, .inr (0, [.ref (A 1), .ref (A 6), .ref (A 11), .ref (A 12), .ref (A 13), .ref (A 18), .ref (A 19), .int (M.1 12), .int (M.1 13), .int 2, .int a1, .int (M.1 16), .int (M.1 17), .int (M.1 18)]))] H := hP
  have hD : va_D AA [(A 17, .inr (0, [.ref (A 1), .ref (A 6), .ref (A 11), .ref (A 12), .ref (A 13), .ref (A 18), .ref (A 19), .int (M.1 12), .int (M.1 13), .int 2, .int a1, .int (M.1 16), .int (M.1 17), .int (M.1 18)]))] := hD
  have hP9 := hP.sub (ws' := [(A 17, xc17 Z A (ap_Control_beginStopping M (2, a1)))]) [0] rfl
  have hD9 := hD.sub (ws' := [(A 17, xc17 Z A (ap_Control_beginStopping M (2, a1)))]) [0] (by decide) rfl
  exact W.vret hx hb hr (fun t ht hW => ⟨⟨(2, a1), rfl, (by rw [F_Control_beginStopping]), xE_at hP9 hK hD9 ht hW⟩, hS.F ht⟩) hS.2.2 d_Control_beginStopping_10
abbrev bc_Control_powerGoes : ByteArray := prog_2_method_5_code
def y_Control_powerGoes : MethodName := ⟨"CentrifugeUnit$Control", "powerGoes", "()V"⟩
theorem d_Control_powerGoes_0 : decode bc_Control_powerGoes 0 = .ok (.aload_n 0, 1) := by decide +kernel
theorem d_Control_powerGoes_1 : decode bc_Control_powerGoes 1 = .ok (.iconst 0, 1) := by decide +kernel
theorem d_Control_powerGoes_2 : decode bc_Control_powerGoes 2 = .ok (.putfield 25, 3) := by decide +kernel
theorem d_Control_powerGoes_5 : decode bc_Control_powerGoes 5 = .ok (.aload_n 0, 1) := by decide +kernel
theorem d_Control_powerGoes_6 : decode bc_Control_powerGoes 6 = .ok (.getfield 12, 3) := by decide +kernel
theorem d_Control_powerGoes_9 : decode bc_Control_powerGoes 9 = .ok (.invokevirtual 62, 3) := by decide +kernel
theorem d_Control_powerGoes_12 : decode bc_Control_powerGoes 12 = .ok (.return_, 1) := by decide +kernel
abbrev ap_Control_powerGoes (M : XM) (u : (Int32 × Int32 × Int32 × Int32)) : XM := ((va_up (va_up (va_up (va_up M.1 12 (u.1)) 20 (u.2.1)) 21 (u.2.2.1)) 22 (u.2.2.2)), M.2)
def F_Control_powerGoes_k2 (M : XM) (u1 : (Int32 × Int32 × Int32)) : (Int32 × Int32 × Int32 × Int32) := (0, (u1.1), (u1.2.1), (u1.2.2))
def F_Control_powerGoes (M : XM) : (Int32 × Int32 × Int32 × Int32) := (F_Control_powerGoes_k2 M (F_Watch_forget M))
set_option maxHeartbeats 4000000 in
set_option maxRecDepth 100000 in
theorem c_Control_powerGoes (l : Launch) (dC : Nat → ClassId) (dI : Nat → Nat → Nat) (Z : Nat → ClassId) (A : Nat → Nat) (sz : Nat) (M : XM) : Met l y_Control_powerGoes (.code y_Control_powerGoes bc_Control_powerGoes 1 none :: xw) ({ frames := 1, cells := 0, slots := 0, locals := 20 }) (va_Pc [.ref (A 17)] (xB (dC, dI) xcl (xty Z) sz [(A 17, xc17 Z A M), (A 18, xc18 Z A M)])) (va_Qv (fun u : (Int32 × Int32 × Int32 × Int32) => u = F_Control_powerGoes M) (fun u => xE (dC, dI) xcl (xty Z) (va_A [(A 17, xc17 Z A M), (A 18, xc18 Z A M)] sz) [(A 17, xc17 Z A (ap_Control_powerGoes M u)), (A 18, xc18 Z A (ap_Control_powerGoes M u))]) (va_A [(A 17, xc17 Z A M), (A 18, xc18 Z A M)] sz)) 0 0 (va_A [(A 17, xc17 Z A M), (A 18, xc18 Z A M)] sz) := by
  refine Met.ofW (cc := bc_Control_powerGoes) (maxL := 1) (ret := none) (by decide) rfl ?_
  intro p e s m args below meth c s₁ B hml hv
  obtain ⟨rfl, hsz, hP, hK, hD0, hq⟩ := hv
  have hx := B.exec
  have hb := B.bytes
  have hr := B.returns
  have hts := atoms_spec (ws := (.code y_Control_powerGoes bc_Control_powerGoes 1 none :: xw)) B.pre
  have htt : ∀ w ∈ xw, w.before _ s = true := fun w h => hts w (List.mem_cons_of_mem _ h)
  have hown : s.vm.findClass "CentrifugeUnit$Control" = some m.cls := findClass_of_methodNamed B.named
  have hlocks := B.notSynchronized
  subst hsz
  have hD := hD0.self (sz := s.heap.size)
  generalize hAe : va_A [(A 17, xc17 Z A M), (A 18, xc18 Z A M)] s.heap.size = AA at hD ⊢
  have hA : ∀ q : Nat, s.heap.size ≤ q → AA q := fun q h => by rw [← hAe]; exact Or.inr h
  have hS : va_S AA s.heap s.heap [] := va_S.rf
  have hP : va_P (dC, dI) xcl [(A 17, .inr (0, [.ref (A 1), .ref (A 6), .ref (A 11), .ref (A 12), .ref (A 13), .ref (A 18), .ref (A 19), .int (M.1 12), .int (M.1 13), .int (M.1 14), .int (M.1 15), .int (M.1 16), .int (M.1 17), .int (M.1 18)])), (A 18, .inr (8, [.int (M.1 19), .int (M.1 20), .int (M.1 21), .int (M.1 22)]))] s.heap := hP
  have hD : va_D AA [(A 17, .inr (0, [.ref (A 1), .ref (A 6), .ref (A 11), .ref (A 12), .ref (A 13), .ref (A 18), .ref (A 19), .int (M.1 12), .int (M.1 13), .int (M.1 14), .int (M.1 15), .int (M.1 16), .int (M.1 17), .int (M.1 18)])), (A 18, .inr (8, [.int (M.1 19), .int (M.1 20), .int (M.1 21), .int (M.1 22)]))] := hD
  have hl := lv_entry ([.ref (A 17)]) (n := 1) (Nat.le_of_ble_eq_true rfl)
  rw [lg_entry_eq]
  generalize (lg_sl ([.ref (A 17)]) ++ List.replicate (1 - (lg_sl ([.ref (A 17)])).length) Slot.unset).toArray = ls at hl ⊢
  have hl : lv_has ls 1 [(0, .ref (A 17))] := hl
  refine lv_aload_n hx hb d_Control_powerGoes_0 rfl (lv_at hl 0 rfl) ?_
  refine lv_iconst (v := 0) hx hb d_Control_powerGoes_1 (by decide) ?_
  refine va_put (D := (dC, dI)) (ci := 0) (v := .int 0) (ty := .boolean) (C := "CentrifugeUnit$Control") (T := xF0) (N := 14) hx hb htt xin0 xT0 xTo0 xNm0 hown hK hP hD hS 0 rfl rfl 7 (by decide) (htt _ tw_240) (fun _ h9 => h9) rfl (by decide +kernel) rfl rfl (Nat.le_of_ble_eq_true rfl) d_Control_powerGoes_2 (fun H locs hP hD hS => ?_)
  have hP : va_P (dC, dI) xcl [(A 17, .inr (0, [.ref (A 1), .ref (A 6), .ref (A 11), .ref (A 12), .ref (A 13), .ref (A 18), .ref (A 19), .int 0, .int (M.1 13), .int (M.1 14), .int (M.1 15), .int (M.1 16), .int (M.1 17), .int (M.1 18)])), (A 18, .inr (8, [.int (M.1 19), .int (M.1 20), .int (M.1 21), .int (M.1 22)]))] H := hP
  have hD : va_D AA [(A 17, .inr (0, [.ref (A 1), .ref (A 6), .ref (A 11), .ref (A 12), .ref (A 13), .ref (A 18), .ref (A 19), .int 0, .int (M.1 13), .int (M.1 14), .int (M.1 15), .int (M.1 16), .int (M.1 17), .int (M.1 18)])), (A 18, .inr (8, [.int (M.1 19), .int (M.1 20), .int (M.1 21), .int (M.1 22)]))] := hD
  refine lv_aload_n hx hb d_Control_powerGoes_5 rfl (lv_at hl 0 rfl) ?_
  refine va_get (D := (dC, dI)) (ci := 0) (v := .ref (A 18)) (C := "CentrifugeUnit$Control") (T := xF0) (N := 14) hx hb htt xin0 hown hK hP 0 rfl rfl 5 (by decide) (htt _ tw_236) (fun _ h9 => h9) rfl d_Control_powerGoes_6 ?_
  have hPc := hP.sub (ws' := [(A 18, xc18 Z A M)]) [1] rfl
  have hDc := hD.sub (ws' := [(A 18, xc18 Z A M)]) [1] (by decide) rfl
  refine xk_v (wc := [(A 18, xc18 Z A M)]) (wr := [(A 17, .inr (0, [.ref (A 1), .ref (A 6), .ref (A 11), .ref (A 12), .ref (A 13), .ref (A 18), .ref (A 19), .int 0, .int (M.1 13), .int (M.1 14), .int (M.1 15), .int (M.1 16), .int (M.1 17), .int (M.1 18)]))]) (va_runV (As := []) (rest := []) ⟨hx, hb, hml, hown, hts⟩ (c_Watch_forget l dC dI Z A _ M) (cwV 0 hts (xw_V _ tw_565 tw_566 tw_567 tw_10 tw_568) rfl rfl rfl (by decide +kernel) ⟨Nat.le_of_ble_eq_true rfl, Nat.le_of_ble_eq_true rfl⟩) ⟨xB_blind, va_recv (q0 := 1) (ci := 8) hK hP rfl rfl, fun U hU hW => ⟨rfl, xB_at hPc hK hDc hq U hU hW⟩⟩ rfl rfl hl.1 rfl (lv_room (Nat.le_of_ble_eq_true rfl)) d_Control_powerGoes_9 ⟨Nat.le_of_ble_eq_true rfl, Nat.le_of_ble_eq_true rfl⟩) hP hD hS hA [1] [0] rfl rfl (by decide) (by decide) (fun u1 H locs hu1 hP hD hS => ?_)
  have hP : va_P (dC, dI) xcl [(A 17, .inr (0, [.ref (A 1), .ref (A 6), .ref (A 11), .ref (A 12), .ref (A 13), .ref (A 18), .ref (A 19), .int 0, .int (M.1 13), .int (M.1 14), .int (M.1 15), .int (M.1 16), .int (M.1 17), .int (M.1 18)])), (A 18, .inr (8, [.int (M.1 19), .int (u1.1), .int (u1.2.1), .int (u1.2.2)]))] H := hP
  have hD : va_D AA [(A 17, .inr (0, [.ref (A 1), .ref (A 6), .ref (A 11), .ref (A 12), .ref (A 13), .ref (A 18), .ref (A 19), .int 0, .int (M.1 13), .int (M.1 14), .int (M.1 15), .int (M.1 16), .int (M.1 17), .int (M.1 18)])), (A 18, .inr (8, [.int (M.1 19), .int (u1.1), .int (u1.2.1), .int (u1.2.2)]))] := hD
  have hP9 := hP.sub (ws' := [(A 17, xc17 Z A (ap_Control_powerGoes M (0, (u1.1), (u1.2.1), (u1.2.2)))), (A 18, xc18 Z A (ap_Control_powerGoes M (0, (u1.1), (u1.2.1), (u1.2.2))))]) [0, 1] rfl
  have hD9 := hD.sub (ws' := [(A 17, xc17 Z A (ap_Control_powerGoes M (0, (u1.1), (u1.2.1), (u1.2.2)))), (A 18, xc18 Z A (ap_Control_powerGoes M (0, (u1.1), (u1.2.1), (u1.2.2))))]) [0, 1] (by decide) rfl
  exact W.vret hx hb hr (fun t ht hW => ⟨⟨(0, (u1.1), (u1.2.1), (u1.2.2)), rfl, (by rw [F_Control_powerGoes, ← hu1, F_Control_powerGoes_k2]), xE_at hP9 hK hD9 ht hW⟩, hS.F ht⟩) hS.2.2 d_Control_powerGoes_12
abbrev bc_Control_powerComes : ByteArray := prog_2_method_6_code
def y_Control_powerComes : MethodName := ⟨"CentrifugeUnit$Control", "powerComes", "()V"⟩
theorem d_Control_powerComes_0 : decode bc_Control_powerComes 0 = .ok (.aload_n 0, 1) := by decide +kernel
theorem d_Control_powerComes_1 : decode bc_Control_powerComes 1 = .ok (.iconst 1, 1) := by decide +kernel
theorem d_Control_powerComes_2 : decode bc_Control_powerComes 2 = .ok (.putfield 25, 3) := by decide +kernel
theorem d_Control_powerComes_5 : decode bc_Control_powerComes 5 = .ok (.aload_n 0, 1) := by decide +kernel
theorem d_Control_powerComes_6 : decode bc_Control_powerComes 6 = .ok (.getfield 12, 3) := by decide +kernel
theorem d_Control_powerComes_9 : decode bc_Control_powerComes 9 = .ok (.invokevirtual 62, 3) := by decide +kernel
theorem d_Control_powerComes_12 : decode bc_Control_powerComes 12 = .ok (.aload_n 0, 1) := by decide +kernel
theorem d_Control_powerComes_13 : decode bc_Control_powerComes 13 = .ok (.getfield 33, 3) := by decide +kernel
theorem d_Control_powerComes_16 : decode bc_Control_powerComes 16 = .ok (.ifCond .eq 14, 3) := by decide +kernel
theorem d_Control_powerComes_19 : decode bc_Control_powerComes 19 = .ok (.aload_n 0, 1) := by decide +kernel
theorem d_Control_powerComes_20 : decode bc_Control_powerComes 20 = .ok (.iconst 3, 1) := by decide +kernel
theorem d_Control_powerComes_21 : decode bc_Control_powerComes 21 = .ok (.putfield 33, 3) := by decide +kernel
theorem d_Control_powerComes_24 : decode bc_Control_powerComes 24 = .ok (.aload_n 0, 1) := by decide +kernel
theorem d_Control_powerComes_25 : decode bc_Control_powerComes 25 = .ok (.bipush 12, 2) := by decide +kernel
theorem d_Control_powerComes_27 : decode bc_Control_powerComes 27 = .ok (.putfield 36, 3) := by decide +kernel
theorem d_Control_powerComes_30 : decode bc_Control_powerComes 30 = .ok (.return_, 1) := by decide +kernel
abbrev ap_Control_powerComes (M : XM) (u : (Int32 × Int32 × Int32 × Int32 × Int32 × Int32)) : XM := ((va_up (va_up (va_up (va_up (va_up (va_up M.1 12 (u.1)) 20 (u.2.1)) 21 (u.2.2.1)) 22 (u.2.2.2.1)) 14 (u.2.2.2.2.1)) 15 (u.2.2.2.2.2)), M.2)
def F_Control_powerComes_k2 (M : XM) (u1 : (Int32 × Int32 × Int32)) : (Int32 × Int32 × Int32 × Int32 × Int32 × Int32) := (if (M.1 14) = 0 then (1, (u1.1), (u1.2.1), (u1.2.2), (M.1 14), (M.1 15)) else (1, (u1.1), (u1.2.1), (u1.2.2), 3, 12))
def F_Control_powerComes (M : XM) : (Int32 × Int32 × Int32 × Int32 × Int32 × Int32) := (F_Control_powerComes_k2 M (F_Watch_forget M))
set_option maxHeartbeats 4000000 in
set_option maxRecDepth 100000 in
theorem c_Control_powerComes (l : Launch) (dC : Nat → ClassId) (dI : Nat → Nat → Nat) (Z : Nat → ClassId) (A : Nat → Nat) (sz : Nat) (M : XM) : Met l y_Control_powerComes (.code y_Control_powerComes bc_Control_powerComes 1 none :: xw) ({ frames := 1, cells := 0, slots := 0, locals := 20 }) (va_Pc [.ref (A 17)] (xB (dC, dI) xcl (xty Z) sz [(A 17, xc17 Z A M), (A 18, xc18 Z A M)])) (va_Qv (fun u : (Int32 × Int32 × Int32 × Int32 × Int32 × Int32) => u = F_Control_powerComes M) (fun u => xE (dC, dI) xcl (xty Z) (va_A [(A 17, xc17 Z A M), (A 18, xc18 Z A M)] sz) [(A 17, xc17 Z A (ap_Control_powerComes M u)), (A 18, xc18 Z A (ap_Control_powerComes M u))]) (va_A [(A 17, xc17 Z A M), (A 18, xc18 Z A M)] sz)) 0 0 (va_A [(A 17, xc17 Z A M), (A 18, xc18 Z A M)] sz) := by
  refine Met.ofW (cc := bc_Control_powerComes) (maxL := 1) (ret := none) (by decide) rfl ?_
  intro p e s m args below meth c s₁ B hml hv
  obtain ⟨rfl, hsz, hP, hK, hD0, hq⟩ := hv
  have hx := B.exec
  have hb := B.bytes
  have hr := B.returns
  have hts := atoms_spec (ws := (.code y_Control_powerComes bc_Control_powerComes 1 none :: xw)) B.pre
  have htt : ∀ w ∈ xw, w.before _ s = true := fun w h => hts w (List.mem_cons_of_mem _ h)
  have hown : s.vm.findClass "CentrifugeUnit$Control" = some m.cls := findClass_of_methodNamed B.named
  have hlocks := B.notSynchronized
  subst hsz
  have hD := hD0.self (sz := s.heap.size)
  generalize hAe : va_A [(A 17, xc17 Z A M), (A 18, xc18 Z A M)] s.heap.size = AA at hD ⊢
  have hA : ∀ q : Nat, s.heap.size ≤ q → AA q := fun q h => by rw [← hAe]; exact Or.inr h
  have hS : va_S AA s.heap s.heap [] := va_S.rf
  have hP : va_P (dC, dI) xcl [(A 17, .inr (0, [.ref (A 1), .ref (A 6), .ref (A 11), .ref (A 12), .ref (A 13), .ref (A 18), .ref (A 19), .int (M.1 12), .int (M.1 13), .int (M.1 14), .int (M.1 15), .int (M.1 16), .int (M.1 17), .int (M.1 18)])), (A 18, .inr (8, [.int (M.1 19), .int (M.1 20), .int (M.1 21), .int (M.1 22)]))] s.heap := hP
  have hD : va_D AA [(A 17, .inr (0, [.ref (A 1), .ref (A 6), .ref (A 11), .ref (A 12), .ref (A 13), .ref (A 18), .ref (A 19), .int (M.1 12), .int (M.1 13), .int (M.1 14), .int (M.1 15), .int (M.1 16), .int (M.1 17), .int (M.1 18)])), (A 18, .inr (8, [.int (M.1 19), .int (M.1 20), .int (M.1 21), .int (M.1 22)]))] := hD
  have hl := lv_entry ([.ref (A 17)]) (n := 1) (Nat.le_of_ble_eq_true rfl)
  rw [lg_entry_eq]
  generalize (lg_sl ([.ref (A 17)]) ++ List.replicate (1 - (lg_sl ([.ref (A 17)])).length) Slot.unset).toArray = ls at hl ⊢
  have hl : lv_has ls 1 [(0, .ref (A 17))] := hl
  refine lv_aload_n hx hb d_Control_powerComes_0 rfl (lv_at hl 0 rfl) ?_
  refine lv_iconst (v := 1) hx hb d_Control_powerComes_1 (by decide) ?_
  refine va_put (D := (dC, dI)) (ci := 0) (v := .int 1) (ty := .boolean) (C := "CentrifugeUnit$Control") (T := xF0) (N := 14) hx hb htt xin0 xT0 xTo0 xNm0 hown hK hP hD hS 0 rfl rfl 7 (by decide) (htt _ tw_240) (fun _ h9 => h9) rfl (by decide +kernel) rfl rfl (Nat.le_of_ble_eq_true rfl) d_Control_powerComes_2 (fun H locs hP hD hS => ?_)
  have hP : va_P (dC, dI) xcl [(A 17, .inr (0, [.ref (A 1), .ref (A 6), .ref (A 11), .ref (A 12), .ref (A 13), .ref (A 18), .ref (A 19), .int 1, .int (M.1 13), .int (M.1 14), .int (M.1 15), .int (M.1 16), .int (M.1 17), .int (M.1 18)])), (A 18, .inr (8, [.int (M.1 19), .int (M.1 20), .int (M.1 21), .int (M.1 22)]))] H := hP
  have hD : va_D AA [(A 17, .inr (0, [.ref (A 1), .ref (A 6), .ref (A 11), .ref (A 12), .ref (A 13), .ref (A 18), .ref (A 19), .int 1, .int (M.1 13), .int (M.1 14), .int (M.1 15), .int (M.1 16), .int (M.1 17), .int (M.1 18)])), (A 18, .inr (8, [.int (M.1 19), .int (M.1 20), .int (M.1 21), .int (M.1 22)]))] := hD
  refine lv_aload_n hx hb d_Control_powerComes_5 rfl (lv_at hl 0 rfl) ?_
  refine va_get (D := (dC, dI)) (ci := 0) (v := .ref (A 18)) (C := "CentrifugeUnit$Control") (T := xF0) (N := 14) hx hb htt xin0 hown hK hP 0 rfl rfl 5 (by decide) (htt _ tw_236) (fun _ h9 => h9) rfl d_Control_powerComes_6 ?_
  have hPc := hP.sub (ws' := [(A 18, xc18 Z A M)]) [1] rfl
  have hDc := hD.sub (ws' := [(A 18, xc18 Z A M)]) [1] (by decide) rfl
  refine xk_v (wc := [(A 18, xc18 Z A M)]) (wr := [(A 17, .inr (0, [.ref (A 1), .ref (A 6), .ref (A 11), .ref (A 12), .ref (A 13), .ref (A 18), .ref (A 19), .int 1, .int (M.1 13), .int (M.1 14), .int (M.1 15), .int (M.1 16), .int (M.1 17), .int (M.1 18)]))]) (va_runV (As := []) (rest := []) ⟨hx, hb, hml, hown, hts⟩ (c_Watch_forget l dC dI Z A _ M) (cwV 0 hts (xw_V _ tw_565 tw_566 tw_567 tw_10 tw_568) rfl rfl rfl (by decide +kernel) ⟨Nat.le_of_ble_eq_true rfl, Nat.le_of_ble_eq_true rfl⟩) ⟨xB_blind, va_recv (q0 := 1) (ci := 8) hK hP rfl rfl, fun U hU hW => ⟨rfl, xB_at hPc hK hDc hq U hU hW⟩⟩ rfl rfl hl.1 rfl (lv_room (Nat.le_of_ble_eq_true rfl)) d_Control_powerComes_9 ⟨Nat.le_of_ble_eq_true rfl, Nat.le_of_ble_eq_true rfl⟩) hP hD hS hA [1] [0] rfl rfl (by decide) (by decide) (fun u1 H locs hu1 hP hD hS => ?_)
  have hP : va_P (dC, dI) xcl [(A 17, .inr (0, [.ref (A 1), .ref (A 6), .ref (A 11), .ref (A 12), .ref (A 13), .ref (A 18), .ref (A 19), .int 1, .int (M.1 13), .int (M.1 14), .int (M.1 15), .int (M.1 16), .int (M.1 17), .int (M.1 18)])), (A 18, .inr (8, [.int (M.1 19), .int (u1.1), .int (u1.2.1), .int (u1.2.2)]))] H := hP
  have hD : va_D AA [(A 17, .inr (0, [.ref (A 1), .ref (A 6), .ref (A 11), .ref (A 12), .ref (A 13), .ref (A 18), .ref (A 19), .int 1, .int (M.1 13), .int (M.1 14), .int (M.1 15), .int (M.1 16), .int (M.1 17), .int (M.1 18)])), (A 18, .inr (8, [.int (M.1 19), .int (u1.1), .int (u1.2.1), .int (u1.2.2)]))] := hD
  refine lv_aload_n hx hb d_Control_powerComes_12 rfl (lv_at hl 0 rfl) ?_
  refine va_get (D := (dC, dI)) (ci := 0) (v := .int (M.1 14)) (C := "CentrifugeUnit$Control") (T := xF0) (N := 14) hx hb htt xin0 hown hK hP 0 rfl rfl 9 (by decide) (htt _ tw_244) (fun _ h9 => h9) rfl d_Control_powerComes_13 ?_
  refine lv_if_eq (tgt := 30) hx hb d_Control_powerComes_16 rfl (fun h3 => ?_) (fun h3 => ?_)
  · have hP9 := hP.sub (ws' := [(A 17, xc17 Z A (ap_Control_powerComes M (1, (u1.1), (u1.2.1), (u1.2.2), (M.1 14), (M.1 15)))), (A 18, xc18 Z A (ap_Control_powerComes M (1, (u1.1), (u1.2.1), (u1.2.2), (M.1 14), (M.1 15))))]) [0, 1] rfl
    have hD9 := hD.sub (ws' := [(A 17, xc17 Z A (ap_Control_powerComes M (1, (u1.1), (u1.2.1), (u1.2.2), (M.1 14), (M.1 15)))), (A 18, xc18 Z A (ap_Control_powerComes M (1, (u1.1), (u1.2.1), (u1.2.2), (M.1 14), (M.1 15))))]) [0, 1] (by decide) rfl
    exact W.vret hx hb hr (fun t ht hW => ⟨⟨(1, (u1.1), (u1.2.1), (u1.2.2), (M.1 14), (M.1 15)), rfl, (by rw [F_Control_powerComes, ← hu1, F_Control_powerComes_k2, if_pos h3]), xE_at hP9 hK hD9 ht hW⟩, hS.F ht⟩) hS.2.2 d_Control_powerComes_30
  · refine lv_aload_n hx hb d_Control_powerComes_19 rfl (lv_at hl 0 rfl) ?_
    refine lv_iconst (v := 3) hx hb d_Control_powerComes_20 (by decide) ?_
    refine va_put (D := (dC, dI)) (ci := 0) (v := .int 3) (ty := .int) (C := "CentrifugeUnit$Control") (T := xF0) (N := 14) hx hb htt xin0 xT0 xTo0 xNm0 hown hK hP hD hS 0 rfl rfl 9 (by decide) (htt _ tw_244) (fun _ h9 => h9) rfl (by decide +kernel) rfl rfl (Nat.le_of_ble_eq_true rfl) d_Control_powerComes_21 (fun H locs hP hD hS => ?_)
    have hP : va_P (dC, dI) xcl [(A 17, .inr (0, [.ref (A 1), .ref (A 6), .ref (A 11), .ref (A 12), .ref (A 13), .ref (A 18), .ref (A 19), .int 1, .int (M.1 13), .int 3, .int (M.1 15), .int (M.1 16), .int (M.1 17), .int (M.1 18)])), (A 18, .inr (8, [.int (M.1 19), .int (u1.1), .int (u1.2.1), .int (u1.2.2)]))] H := hP
    have hD : va_D AA [(A 17, .inr (0, [.ref (A 1), .ref (A 6), .ref (A 11), .ref (A 12), .ref (A 13), .ref (A 18), .ref (A 19), .int 1, .int (M.1 13), .int 3, .int (M.1 15), .int (M.1 16), .int (M.1 17), .int (M.1 18)])), (A 18, .inr (8, [.int (M.1 19), .int (u1.1), .int (u1.2.1), .int (u1.2.2)]))] := hD
    refine lv_aload_n hx hb d_Control_powerComes_24 rfl (lv_at hl 0 rfl) ?_
    refine lv_bipush (v := 12) hx hb d_Control_powerComes_25 (by decide) ?_
    refine va_put (D := (dC, dI)) (ci := 0) (v := .int 12) (ty := .int) (C := "CentrifugeUnit$Control") (T := xF0) (N := 14) hx hb htt xin0 xT0 xTo0 xNm0 hown hK hP hD hS 0 rfl rfl 10 (by decide) (htt _ tw_246) (fun _ h9 => h9) rfl (by decide +kernel) rfl rfl (Nat.le_of_ble_eq_true rfl) d_Control_powerComes_27 (fun H locs hP hD hS => ?_)
    have hP : va_P (dC, dI) xcl [(A 17, .inr (0, [.ref (A 1), .ref (A 6), .ref (A 11), .ref (A 12), .ref (A 13), .ref (A 18), .ref (A 19), .int 1, .int (M.1 13), .int 3, .int 12, .int (M.1 16), .int (M.1 17), .int (M.1 18)])), (A 18, .inr (8, [.int (M.1 19), .int (u1.1), .int (u1.2.1), .int (u1.2.2)]))] H := hP
    have hD : va_D AA [(A 17, .inr (0, [.ref (A 1), .ref (A 6), .ref (A 11), .ref (A 12), .ref (A 13), .ref (A 18), .ref (A 19), .int 1, .int (M.1 13), .int 3, .int 12, .int (M.1 16), .int (M.1 17), .int (M.1 18)])), (A 18, .inr (8, [.int (M.1 19), .int (u1.1), .int (u1.2.1), .int (u1.2.2)]))] := hD
    have hP9 := hP.sub (ws' := [(A 17, xc17 Z A (ap_Control_powerComes M (1, (u1.1), (u1.2.1), (u1.2.2), 3, 12))), (A 18, xc18 Z A (ap_Control_powerComes M (1, (u1.1), (u1.2.1), (u1.2.2), 3, 12)))]) [0, 1] rfl
    have hD9 := hD.sub (ws' := [(A 17, xc17 Z A (ap_Control_powerComes M (1, (u1.1), (u1.2.1), (u1.2.2), 3, 12))), (A 18, xc18 Z A (ap_Control_powerComes M (1, (u1.1), (u1.2.1), (u1.2.2), 3, 12)))]) [0, 1] (by decide) rfl
    exact W.vret hx hb hr (fun t ht hW => ⟨⟨(1, (u1.1), (u1.2.1), (u1.2.2), 3, 12), rfl, (by rw [F_Control_powerComes, ← hu1, F_Control_powerComes_k2, if_neg h3]), xE_at hP9 hK hD9 ht hW⟩, hS.F ht⟩) hS.2.2 d_Control_powerComes_30
abbrev bc_Control_readSensors : ByteArray := prog_2_method_9_code
def y_Control_readSensors : MethodName := ⟨"CentrifugeUnit$Control", "readSensors", "(LCentrifugeUnit$Model;)V"⟩
theorem d_Control_readSensors_0 : decode bc_Control_readSensors 0 = .ok (.aload_n 0, 1) := by decide +kernel
theorem d_Control_readSensors_1 : decode bc_Control_readSensors 1 = .ok (.getfield 47, 3) := by decide +kernel
theorem d_Control_readSensors_4 : decode bc_Control_readSensors 4 = .ok (.aload_n 1, 1) := by decide +kernel
theorem d_Control_readSensors_5 : decode bc_Control_readSensors 5 = .ok (.invokevirtual 96, 3) := by decide +kernel
theorem d_Control_readSensors_8 : decode bc_Control_readSensors 8 = .ok (.aload_n 0, 1) := by decide +kernel
theorem d_Control_readSensors_9 : decode bc_Control_readSensors 9 = .ok (.getfield 12, 3) := by decide +kernel
theorem d_Control_readSensors_12 : decode bc_Control_readSensors 12 = .ok (.aload_n 0, 1) := by decide +kernel
theorem d_Control_readSensors_13 : decode bc_Control_readSensors 13 = .ok (.getfield 47, 3) := by decide +kernel
theorem d_Control_readSensors_16 : decode bc_Control_readSensors 16 = .ok (.invokevirtual 101, 3) := by decide +kernel
theorem d_Control_readSensors_19 : decode bc_Control_readSensors 19 = .ok (.aload_n 0, 1) := by decide +kernel
theorem d_Control_readSensors_20 : decode bc_Control_readSensors 20 = .ok (.getfield 47, 3) := by decide +kernel
theorem d_Control_readSensors_23 : decode bc_Control_readSensors 23 = .ok (.getfield 105, 3) := by decide +kernel
theorem d_Control_readSensors_26 : decode bc_Control_readSensors 26 = .ok (.istore_n 2, 1) := by decide +kernel
theorem d_Control_readSensors_27 : decode bc_Control_readSensors 27 = .ok (.aload_n 0, 1) := by decide +kernel
theorem d_Control_readSensors_28 : decode bc_Control_readSensors 28 = .ok (.getfield 21, 3) := by decide +kernel
theorem d_Control_readSensors_31 : decode bc_Control_readSensors 31 = .ok (.dup, 1) := by decide +kernel
theorem d_Control_readSensors_32 : decode bc_Control_readSensors 32 = .ok (.getfield 108, 3) := by decide +kernel
theorem d_Control_readSensors_35 : decode bc_Control_readSensors 35 = .ok (.iload_n 2, 1) := by decide +kernel
theorem d_Control_readSensors_36 : decode bc_Control_readSensors 36 = .ok (.i2l, 1) := by decide +kernel
theorem d_Control_readSensors_37 : decode bc_Control_readSensors 37 = .ok (.ladd, 1) := by decide +kernel
theorem d_Control_readSensors_38 : decode bc_Control_readSensors 38 = .ok (.putfield 108, 3) := by decide +kernel
theorem d_Control_readSensors_41 : decode bc_Control_readSensors 41 = .ok (.aload_n 0, 1) := by decide +kernel
theorem d_Control_readSensors_42 : decode bc_Control_readSensors 42 = .ok (.invokevirtual 112, 3) := by decide +kernel
theorem d_Control_readSensors_45 : decode bc_Control_readSensors 45 = .ok (.ifCond .eq 28, 3) := by decide +kernel
theorem d_Control_readSensors_48 : decode bc_Control_readSensors 48 = .ok (.aload_n 0, 1) := by decide +kernel
theorem d_Control_readSensors_49 : decode bc_Control_readSensors 49 = .ok (.getfield 21, 3) := by decide +kernel
theorem d_Control_readSensors_52 : decode bc_Control_readSensors 52 = .ok (.getfield 108, 3) := by decide +kernel
theorem d_Control_readSensors_55 : decode bc_Control_readSensors 55 = .ok (.ldc2_w 115, 3) := by decide +kernel
theorem d_Control_readSensors_58 : decode bc_Control_readSensors 58 = .ok (.lcmp, 1) := by decide +kernel
theorem d_Control_readSensors_59 : decode bc_Control_readSensors 59 = .ok (.ifCond .lt 14, 3) := by decide +kernel
theorem d_Control_readSensors_62 : decode bc_Control_readSensors 62 = .ok (.aload_n 0, 1) := by decide +kernel
theorem d_Control_readSensors_63 : decode bc_Control_readSensors 63 = .ok (.getfield 21, 3) := by decide +kernel
theorem d_Control_readSensors_66 : decode bc_Control_readSensors 66 = .ok (.aload_n 0, 1) := by decide +kernel
theorem d_Control_readSensors_67 : decode bc_Control_readSensors 67 = .ok (.getfield 39, 3) := by decide +kernel
theorem d_Control_readSensors_70 : decode bc_Control_readSensors 70 = .ok (.invokevirtual 117, 3) := by decide +kernel
theorem d_Control_readSensors_73 : decode bc_Control_readSensors 73 = .ok (.aload_n 0, 1) := by decide +kernel
theorem d_Control_readSensors_74 : decode bc_Control_readSensors 74 = .ok (.getfield 33, 3) := by decide +kernel
theorem d_Control_readSensors_77 : decode bc_Control_readSensors 77 = .ok (.ifCond .eq 21, 3) := by decide +kernel
theorem d_Control_readSensors_80 : decode bc_Control_readSensors 80 = .ok (.aload_n 0, 1) := by decide +kernel
theorem d_Control_readSensors_81 : decode bc_Control_readSensors 81 = .ok (.getfield 21, 3) := by decide +kernel
theorem d_Control_readSensors_84 : decode bc_Control_readSensors 84 = .ok (.aload_n 0, 1) := by decide +kernel
theorem d_Control_readSensors_85 : decode bc_Control_readSensors 85 = .ok (.getfield 21, 3) := by decide +kernel
theorem d_Control_readSensors_88 : decode bc_Control_readSensors 88 = .ok (.getfield 121, 3) := by decide +kernel
theorem d_Control_readSensors_91 : decode bc_Control_readSensors 91 = .ok (.iload_n 2, 1) := by decide +kernel
theorem d_Control_readSensors_92 : decode bc_Control_readSensors 92 = .ok (.invokestatic 124, 3) := by decide +kernel
theorem d_Control_readSensors_95 : decode bc_Control_readSensors 95 = .ok (.putfield 121, 3) := by decide +kernel
theorem d_Control_readSensors_98 : decode bc_Control_readSensors 98 = .ok (.return_, 1) := by decide +kernel
abbrev ap_Control_readSensors (M : XM) (u : (Int32 × Int32 × Int32 × Int32 × Int32 × Int32 × Int32 × Int64 × Int32 × Int32 × Int32)) : XM := ((va_up (va_up (va_up (va_up (va_up (va_up (va_up (va_up (va_up (va_up M.1 4 (u.1)) 5 (u.2.1)) 6 (u.2.2.1)) 7 (u.2.2.2.1)) 20 (u.2.2.2.2.1)) 21 (u.2.2.2.2.2.1)) 22 (u.2.2.2.2.2.2.1)) 24 (u.2.2.2.2.2.2.2.2.1)) 23 (u.2.2.2.2.2.2.2.2.2.1)) 25 (u.2.2.2.2.2.2.2.2.2.2)), (va_up M.2.1 2 (u.2.2.2.2.2.2.2.1)), M.2.2)
def F_Control_readSensors_k13 (M : XM) (u1 : (Int32 × Int32 × Int32 × Int32)) (u3 : (Int32 × Int32 × Int32)) (z5 : Int32) (j7 : Int64 × Int32 × Int32) (z12 : Int32) : (Int32 × Int32 × Int32 × Int32 × Int32 × Int32 × Int32 × Int64 × Int32 × Int32 × Int32) := ((u1.1), (u1.2.1), (u1.2.2.1), (u1.2.2.2), (u3.1), (u3.2.1), (u3.2.2), (j7.1), (j7.2.1), (j7.2.2), z12)
def F_Control_readSensors_k10 (M : XM) (u1 : (Int32 × Int32 × Int32 × Int32)) (u3 : (Int32 × Int32 × Int32)) (z5 : Int32) (j7 : Int64 × Int32 × Int32) : (Int32 × Int32 × Int32 × Int32 × Int32 × Int32 × Int32 × Int64 × Int32 × Int32 × Int32) := (if (M.1 14) = 0 then ((u1.1), (u1.2.1), (u1.2.2.1), (u1.2.2.2), (u3.1), (u3.2.1), (u3.2.2), (j7.1), (j7.2.1), (j7.2.2), (M.1 25)) else (F_Control_readSensors_k13 M u1 u3 z5 j7 (if (M.1 25) < (u1.2.2.1) then (u1.2.2.1) else (M.1 25))))
def F_Control_readSensors_k17 (M : XM) (u1 : (Int32 × Int32 × Int32 × Int32)) (u3 : (Int32 × Int32 × Int32)) (z5 : Int32) (u16 : (Int64 × Int32 × Int32)) : Int64 × Int32 × Int32 := ((u16.1), (u16.2.1), (u16.2.2))
def J_Control_readSensors_9 (M : XM) (u1 : (Int32 × Int32 × Int32 × Int32)) (u3 : (Int32 × Int32 × Int32)) (z5 : Int32) : Int64 × Int32 × Int32 := (if z5 = 0 then (((M.2.1 2) + ((u1.2.2.1)).toInt64), (M.1 24), (M.1 23)) else (if (lg_cmp ((M.2.1 2) + ((u1.2.2.1)).toInt64) 300000) < 0 then (((M.2.1 2) + ((u1.2.2.1)).toInt64), (M.1 24), (M.1 23)) else (F_Control_readSensors_k17 M u1 u3 z5 (F_Run_readPattern (M.1, (va_up M.2.1 2 ((M.2.1 2) + ((u1.2.2.1)).toInt64)), M.2.2)))))
def F_Control_readSensors_k6 (M : XM) (u1 : (Int32 × Int32 × Int32 × Int32)) (u3 : (Int32 × Int32 × Int32)) (z5 : Int32) : (Int32 × Int32 × Int32 × Int32 × Int32 × Int32 × Int32 × Int64 × Int32 × Int32 × Int32) := (F_Control_readSensors_k10 M u1 u3 z5 (J_Control_readSensors_9 M u1 u3 z5))
def F_Control_readSensors_k4 (M : XM) (u1 : (Int32 × Int32 × Int32 × Int32)) (u3 : (Int32 × Int32 × Int32)) : (Int32 × Int32 × Int32 × Int32 × Int32 × Int32 × Int32 × Int64 × Int32 × Int32 × Int32) := (F_Control_readSensors_k6 M u1 u3 (F_Control_turning M))
def F_Control_readSensors_k2 (M : XM) (u1 : (Int32 × Int32 × Int32 × Int32)) : (Int32 × Int32 × Int32 × Int32 × Int32 × Int32 × Int32 × Int64 × Int32 × Int32 × Int32) := (F_Control_readSensors_k4 M u1 (F_Watch_count ((va_up (va_up (va_up (va_up M.1 4 (u1.1)) 5 (u1.2.1)) 6 (u1.2.2.1)) 7 (u1.2.2.2)), M.2)))
def F_Control_readSensors (M : XM) : (Int32 × Int32 × Int32 × Int32 × Int32 × Int32 × Int32 × Int64 × Int32 × Int32 × Int32) := (F_Control_readSensors_k2 M (F_Sensors_sense M))
set_option maxHeartbeats 4000000 in
set_option maxRecDepth 100000 in
theorem c_Control_readSensors (l : Launch) (dC : Nat → ClassId) (dI : Nat → Nat → Nat) (Z : Nat → ClassId) (A : Nat → Nat) (sz : Nat) (M : XM) : Met l y_Control_readSensors (.code y_Control_readSensors bc_Control_readSensors 3 none :: xw) ({ frames := 4, cells := 0, slots := 0, locals := 84 }) (va_Pc [.ref (A 17), .ref (A 10)] (xB (dC, dI) xcl (xty Z) sz [(A 17, xc17 Z A M), (A 10, xc10 Z A M), (A 11, xc11 Z A M), (A 18, xc18 Z A M), (A 19, xc19 Z A M), (A 1, xc1 Z A M), (A 2, xc2 Z A M)])) (va_Qv (fun u : (Int32 × Int32 × Int32 × Int32 × Int32 × Int32 × Int32 × Int64 × Int32 × Int32 × Int32) => u = F_Control_readSensors M) (fun u => xE (dC, dI) xcl (xty Z) (va_A [(A 17, xc17 Z A M), (A 10, xc10 Z A M), (A 11, xc11 Z A M), (A 18, xc18 Z A M), (A 19, xc19 Z A M), (A 1, xc1 Z A M), (A 2, xc2 Z A M)] sz) [(A 17, xc17 Z A (ap_Control_readSensors M u)), (A 10, xc10 Z A (ap_Control_readSensors M u)), (A 11, xc11 Z A (ap_Control_readSensors M u)), (A 18, xc18 Z A (ap_Control_readSensors M u)), (A 19, xc19 Z A (ap_Control_readSensors M u)), (A 1, xc1 Z A (ap_Control_readSensors M u)), (A 2, xc2 Z A (ap_Control_readSensors M u))]) (va_A [(A 17, xc17 Z A M), (A 10, xc10 Z A M), (A 11, xc11 Z A M), (A 18, xc18 Z A M), (A 19, xc19 Z A M), (A 1, xc1 Z A M), (A 2, xc2 Z A M)] sz)) 0 0 (va_A [(A 17, xc17 Z A M), (A 10, xc10 Z A M), (A 11, xc11 Z A M), (A 18, xc18 Z A M), (A 19, xc19 Z A M), (A 1, xc1 Z A M), (A 2, xc2 Z A M)] sz) := by
  refine Met.ofW (cc := bc_Control_readSensors) (maxL := 3) (ret := none) (by decide) rfl ?_
  intro p e s m args below meth c s₁ B hml hv
  obtain ⟨rfl, hsz, hP, hK, hD0, hq⟩ := hv
  have hx := B.exec
  have hb := B.bytes
  have hr := B.returns
  have hts := atoms_spec (ws := (.code y_Control_readSensors bc_Control_readSensors 3 none :: xw)) B.pre
  have htt : ∀ w ∈ xw, w.before _ s = true := fun w h => hts w (List.mem_cons_of_mem _ h)
  have hown : s.vm.findClass "CentrifugeUnit$Control" = some m.cls := findClass_of_methodNamed B.named
  have hlocks := B.notSynchronized
  subst hsz
  have hD := hD0.self (sz := s.heap.size)
  generalize hAe : va_A [(A 17, xc17 Z A M), (A 10, xc10 Z A M), (A 11, xc11 Z A M), (A 18, xc18 Z A M), (A 19, xc19 Z A M), (A 1, xc1 Z A M), (A 2, xc2 Z A M)] s.heap.size = AA at hD ⊢
  have hA : ∀ q : Nat, s.heap.size ≤ q → AA q := fun q h => by rw [← hAe]; exact Or.inr h
  have hS : va_S AA s.heap s.heap [] := va_S.rf
  have hP : va_P (dC, dI) xcl [(A 17, .inr (0, [.ref (A 1), .ref (A 6), .ref (A 11), .ref (A 12), .ref (A 13), .ref (A 18), .ref (A 19), .int (M.1 12), .int (M.1 13), .int (M.1 14), .int (M.1 15), .int (M.1 16), .int (M.1 17), .int (M.1 18)])), (A 10, .inr (2, [.long (M.2.1 0)])), (A 11, .inr (7, [.int (M.1 2), .int (M.1 3), .int (M.1 4), .int (M.1 5), .int (M.1 6), .int (M.1 7)])), (A 18, .inr (8, [.int (M.1 19), .int (M.1 20), .int (M.1 21), .int (M.1 22)])), (A 19, .inr (6, [.long (M.2.1 1), .long (M.2.1 2), .int (M.1 23), .int (M.1 24), .int (M.1 25), .int (M.1 26), .int (M.1 27), .int (M.1 28)])), (A 1, .inr (5, [.ref (A 2), .ref (A 3), .ref (A 4), .ref (A 5), .int (M.1 0)])), (A 2, .inl (Z 0, 4, .inl (M.2.2.1 2)))] s.heap := hP
  have hD : va_D AA [(A 17, .inr (0, [.ref (A 1), .ref (A 6), .ref (A 11), .ref (A 12), .ref (A 13), .ref (A 18), .ref (A 19), .int (M.1 12), .int (M.1 13), .int (M.1 14), .int (M.1 15), .int (M.1 16), .int (M.1 17), .int (M.1 18)])), (A 10, .inr (2, [.long (M.2.1 0)])), (A 11, .inr (7, [.int (M.1 2), .int (M.1 3), .int (M.1 4), .int (M.1 5), .int (M.1 6), .int (M.1 7)])), (A 18, .inr (8, [.int (M.1 19), .int (M.1 20), .int (M.1 21), .int (M.1 22)])), (A 19, .inr (6, [.long (M.2.1 1), .long (M.2.1 2), .int (M.1 23), .int (M.1 24), .int (M.1 25), .int (M.1 26), .int (M.1 27), .int (M.1 28)])), (A 1, .inr (5, [.ref (A 2), .ref (A 3), .ref (A 4), .ref (A 5), .int (M.1 0)])), (A 2, .inl (Z 0, 4, .inl (M.2.2.1 2)))] := hD
  have hl := lv_entry ([.ref (A 17), .ref (A 10)]) (n := 3) (Nat.le_of_ble_eq_true rfl)
  rw [lg_entry_eq]
  generalize (lg_sl ([.ref (A 17), .ref (A 10)]) ++ List.replicate (3 - (lg_sl ([.ref (A 17), .ref (A 10)])).length) Slot.unset).toArray = ls at hl ⊢
  have hl : lv_has ls 3 [(0, .ref (A 17)), (1, .ref (A 10))] := hl
  refine lv_aload_n hx hb d_Control_readSensors_0 rfl (lv_at hl 0 rfl) ?_
  refine va_get (D := (dC, dI)) (ci := 0) (v := .ref (A 11)) (C := "CentrifugeUnit$Control") (T := xF0) (N := 14) hx hb htt xin0 hown hK hP 0 rfl rfl 2 (by decide) (htt _ tw_233) (fun _ h9 => h9) rfl d_Control_readSensors_1 ?_
  refine lv_aload_n hx hb d_Control_readSensors_4 rfl (lv_at hl 1 rfl) ?_
  have hPc := hP.sub (ws' := [(A 11, xc11 Z A M), (A 10, xc10 Z A M)]) [2, 1] rfl
  have hDc := hD.sub (ws' := [(A 11, xc11 Z A M), (A 10, xc10 Z A M)]) [2, 1] (by decide) rfl
  refine xk_v (wc := [(A 11, xc11 Z A M), (A 10, xc10 Z A M)]) (wr := [(A 17, .inr (0, [.ref (A 1), .ref (A 6), .ref (A 11), .ref (A 12), .ref (A 13), .ref (A 18), .ref (A 19), .int (M.1 12), .int (M.1 13), .int (M.1 14), .int (M.1 15), .int (M.1 16), .int (M.1 17), .int (M.1 18)])), (A 18, .inr (8, [.int (M.1 19), .int (M.1 20), .int (M.1 21), .int (M.1 22)])), (A 19, .inr (6, [.long (M.2.1 1), .long (M.2.1 2), .int (M.1 23), .int (M.1 24), .int (M.1 25), .int (M.1 26), .int (M.1 27), .int (M.1 28)])), (A 1, .inr (5, [.ref (A 2), .ref (A 3), .ref (A 4), .ref (A 5), .int (M.1 0)])), (A 2, .inl (Z 0, 4, .inl (M.2.2.1 2)))]) (va_runV (As := [.ref (A 10)]) (rest := []) ⟨hx, hb, hml, hown, hts⟩ (c_Sensors_sense l dC dI Z A _ M) (cwV 1 hts (xw_V _ tw_589 tw_590 tw_591 tw_6 tw_592) rfl rfl rfl (by decide +kernel) ⟨Nat.le_of_ble_eq_true rfl, Nat.le_of_ble_eq_true rfl⟩) ⟨xB_blind, va_recv (q0 := 2) (ci := 7) hK hP rfl rfl, fun U hU hW => ⟨rfl, xB_at hPc hK hDc hq U hU hW⟩⟩ rfl rfl hl.1 rfl (lv_room (Nat.le_of_ble_eq_true rfl)) d_Control_readSensors_5 ⟨Nat.le_of_ble_eq_true rfl, Nat.le_of_ble_eq_true rfl⟩) hP hD hS hA [2, 1] [0, 3, 4, 5, 6] rfl rfl (by decide) (by decide) (fun u1 H locs hu1 hP hD hS => ?_)
  have hP : va_P (dC, dI) xcl [(A 17, .inr (0, [.ref (A 1), .ref (A 6), .ref (A 11), .ref (A 12), .ref (A 13), .ref (A 18), .ref (A 19), .int (M.1 12), .int (M.1 13), .int (M.1 14), .int (M.1 15), .int (M.1 16), .int (M.1 17), .int (M.1 18)])), (A 18, .inr (8, [.int (M.1 19), .int (M.1 20), .int (M.1 21), .int (M.1 22)])), (A 19, .inr (6, [.long (M.2.1 1), .long (M.2.1 2), .int (M.1 23), .int (M.1 24), .int (M.1 25), .int (M.1 26), .int (M.1 27), .int (M.1 28)])), (A 1, .inr (5, [.ref (A 2), .ref (A 3), .ref (A 4), .ref (A 5), .int (M.1 0)])), (A 2, .inl (Z 0, 4, .inl (M.2.2.1 2))), (A 11, .inr (7, [.int (M.1 2), .int (M.1 3), .int (u1.1), .int (u1.2.1), .int (u1.2.2.1), .int (u1.2.2.2)])), (A 10, .inr (2, [.long (M.2.1 0)]))] H := hP
  have hD : va_D AA [(A 17, .inr (0, [.ref (A 1), .ref (A 6), .ref (A 11), .ref (A 12), .ref (A 13), .ref (A 18), .ref (A 19), .int (M.1 12), .int (M.1 13), .int (M.1 14), .int (M.1 15), .int (M.1 16), .int (M.1 17), .int (M.1 18)])), (A 18, .inr (8, [.int (M.1 19), .int (M.1 20), .int (M.1 21), .int (M.1 22)])), (A 19, .inr (6, [.long (M.2.1 1), .long (M.2.1 2), .int (M.1 23), .int (M.1 24), .int (M.1 25), .int (M.1 26), .int (M.1 27), .int (M.1 28)])), (A 1, .inr (5, [.ref (A 2), .ref (A 3), .ref (A 4), .ref (A 5), .int (M.1 0)])), (A 2, .inl (Z 0, 4, .inl (M.2.2.1 2))), (A 11, .inr (7, [.int (M.1 2), .int (M.1 3), .int (u1.1), .int (u1.2.1), .int (u1.2.2.1), .int (u1.2.2.2)])), (A 10, .inr (2, [.long (M.2.1 0)]))] := hD
  refine lv_aload_n hx hb d_Control_readSensors_8 rfl (lv_at hl 0 rfl) ?_
  refine va_get (D := (dC, dI)) (ci := 0) (v := .ref (A 18)) (C := "CentrifugeUnit$Control") (T := xF0) (N := 14) hx hb htt xin0 hown hK hP 0 rfl rfl 5 (by decide) (htt _ tw_236) (fun _ h9 => h9) rfl d_Control_readSensors_9 ?_
  refine lv_aload_n hx hb d_Control_readSensors_12 rfl (lv_at hl 0 rfl) ?_
  refine va_get (D := (dC, dI)) (ci := 0) (v := .ref (A 11)) (C := "CentrifugeUnit$Control") (T := xF0) (N := 14) hx hb htt xin0 hown hK hP 0 rfl rfl 2 (by decide) (htt _ tw_233) (fun _ h9 => h9) rfl d_Control_readSensors_13 ?_
  have hPc := hP.sub (ws' := [(A 18, xc18 Z A ((va_up (va_up (va_up (va_up M.1 4 (u1.1)) 5 (u1.2.1)) 6 (u1.2.2.1)) 7 (u1.2.2.2)), M.2)), (A 11, xc11 Z A ((va_up (va_up (va_up (va_up M.1 4 (u1.1)) 5 (u1.2.1)) 6 (u1.2.2.1)) 7 (u1.2.2.2)), M.2))]) [1, 5] rfl
  have hDc := hD.sub (ws' := [(A 18, xc18 Z A ((va_up (va_up (va_up (va_up M.1 4 (u1.1)) 5 (u1.2.1)) 6 (u1.2.2.1)) 7 (u1.2.2.2)), M.2)), (A 11, xc11 Z A ((va_up (va_up (va_up (va_up M.1 4 (u1.1)) 5 (u1.2.1)) 6 (u1.2.2.1)) 7 (u1.2.2.2)), M.2))]) [1, 5] (by decide) rfl
  refine xk_v (wc := [(A 18, xc18 Z A ((va_up (va_up (va_up (va_up M.1 4 (u1.1)) 5 (u1.2.1)) 6 (u1.2.2.1)) 7 (u1.2.2.2)), M.2)), (A 11, xc11 Z A ((va_up (va_up (va_up (va_up M.1 4 (u1.1)) 5 (u1.2.1)) 6 (u1.2.2.1)) 7 (u1.2.2.2)), M.2))]) (wr := [(A 17, .inr (0, [.ref (A 1), .ref (A 6), .ref (A 11), .ref (A 12), .ref (A 13), .ref (A 18), .ref (A 19), .int (M.1 12), .int (M.1 13), .int (M.1 14), .int (M.1 15), .int (M.1 16), .int (M.1 17), .int (M.1 18)])), (A 19, .inr (6, [.long (M.2.1 1), .long (M.2.1 2), .int (M.1 23), .int (M.1 24), .int (M.1 25), .int (M.1 26), .int (M.1 27), .int (M.1 28)])), (A 1, .inr (5, [.ref (A 2), .ref (A 3), .ref (A 4), .ref (A 5), .int (M.1 0)])), (A 2, .inl (Z 0, 4, .inl (M.2.2.1 2))), (A 10, .inr (2, [.long (M.2.1 0)]))]) (va_runV (As := [.ref (A 11)]) (rest := []) ⟨hx, hb, hml, hown, hts⟩ (c_Watch_count l dC dI Z A _ ((va_up (va_up (va_up (va_up M.1 4 (u1.1)) 5 (u1.2.1)) 6 (u1.2.2.1)) 7 (u1.2.2.2)), M.2)) (cwV 1 hts (xw_V _ tw_616 tw_617 tw_618 tw_10 tw_619) rfl rfl rfl (by decide +kernel) ⟨Nat.le_of_ble_eq_true rfl, Nat.le_of_ble_eq_true rfl⟩) ⟨xB_blind, va_recv (q0 := 1) (ci := 8) hK hP rfl rfl, fun U hU hW => ⟨rfl, xB_at hPc hK hDc hq U hU hW⟩⟩ rfl rfl hl.1 rfl (lv_room (Nat.le_of_ble_eq_true rfl)) d_Control_readSensors_16 ⟨Nat.le_of_ble_eq_true rfl, Nat.le_of_ble_eq_true rfl⟩) hP hD hS hA [1, 5] [0, 2, 3, 4, 6] rfl rfl (by decide) (by decide) (fun u3 H locs hu3 hP hD hS => ?_)
  have hP : va_P (dC, dI) xcl [(A 17, .inr (0, [.ref (A 1), .ref (A 6), .ref (A 11), .ref (A 12), .ref (A 13), .ref (A 18), .ref (A 19), .int (M.1 12), .int (M.1 13), .int (M.1 14), .int (M.1 15), .int (M.1 16), .int (M.1 17), .int (M.1 18)])), (A 19, .inr (6, [.long (M.2.1 1), .long (M.2.1 2), .int (M.1 23), .int (M.1 24), .int (M.1 25), .int (M.1 26), .int (M.1 27), .int (M.1 28)])), (A 1, .inr (5, [.ref (A 2), .ref (A 3), .ref (A 4), .ref (A 5), .int (M.1 0)])), (A 2, .inl (Z 0, 4, .inl (M.2.2.1 2))), (A 10, .inr (2, [.long (M.2.1 0)])), (A 18, .inr (8, [.int (M.1 19), .int (u3.1), .int (u3.2.1), .int (u3.2.2)])), (A 11, .inr (7, [.int (M.1 2), .int (M.1 3), .int (u1.1), .int (u1.2.1), .int (u1.2.2.1), .int (u1.2.2.2)]))] H := hP
  have hD : va_D AA [(A 17, .inr (0, [.ref (A 1), .ref (A 6), .ref (A 11), .ref (A 12), .ref (A 13), .ref (A 18), .ref (A 19), .int (M.1 12), .int (M.1 13), .int (M.1 14), .int (M.1 15), .int (M.1 16), .int (M.1 17), .int (M.1 18)])), (A 19, .inr (6, [.long (M.2.1 1), .long (M.2.1 2), .int (M.1 23), .int (M.1 24), .int (M.1 25), .int (M.1 26), .int (M.1 27), .int (M.1 28)])), (A 1, .inr (5, [.ref (A 2), .ref (A 3), .ref (A 4), .ref (A 5), .int (M.1 0)])), (A 2, .inl (Z 0, 4, .inl (M.2.2.1 2))), (A 10, .inr (2, [.long (M.2.1 0)])), (A 18, .inr (8, [.int (M.1 19), .int (u3.1), .int (u3.2.1), .int (u3.2.2)])), (A 11, .inr (7, [.int (M.1 2), .int (M.1 3), .int (u1.1), .int (u1.2.1), .int (u1.2.2.1), .int (u1.2.2.2)]))] := hD
  refine lv_aload_n hx hb d_Control_readSensors_19 rfl (lv_at hl 0 rfl) ?_
  refine va_get (D := (dC, dI)) (ci := 0) (v := .ref (A 11)) (C := "CentrifugeUnit$Control") (T := xF0) (N := 14) hx hb htt xin0 hown hK hP 0 rfl rfl 2 (by decide) (htt _ tw_233) (fun _ h9 => h9) rfl d_Control_readSensors_20 ?_
  refine va_get (D := (dC, dI)) (ci := 7) (v := .int (u1.2.2.1)) (C := "CentrifugeUnit$Sensors") (T := xF7) (N := 6) hx hb htt xin7 hown hK hP 6 rfl rfl 4 (by decide) (htt _ tw_105) (fun _ h9 => h9) rfl d_Control_readSensors_23 ?_
  refine lv_istore_n (lv' := [(2, .int (u1.2.2.1)), (0, .ref (A 17)), (1, .ref (A 10))]) hx hb d_Control_readSensors_26 rfl hl (by decide) rfl (fun ls hl => ?_)
  refine lv_aload_n hx hb d_Control_readSensors_27 rfl (lv_at hl 1 rfl) ?_
  refine va_get (D := (dC, dI)) (ci := 0) (v := .ref (A 19)) (C := "CentrifugeUnit$Control") (T := xF0) (N := 14) hx hb htt xin0 hown hK hP 0 rfl rfl 6 (by decide) (htt _ tw_238) (fun _ h9 => h9) rfl d_Control_readSensors_28 ?_
  refine lv_dup hx hb d_Control_readSensors_31 rfl ?_
  refine va_get (D := (dC, dI)) (ci := 6) (v := .long (M.2.1 2)) (C := "CentrifugeUnit$Run") (T := xF6) (N := 8) hx hb htt xin6 hown hK hP 1 rfl rfl 1 (by decide) (htt _ tw_198) (fun _ h9 => h9) rfl d_Control_readSensors_32 ?_
  refine lv_iload_n hx hb d_Control_readSensors_35 rfl (lv_at hl 0 rfl) ?_
  refine lv_i2l (v := ((u1.2.2.1)).toInt64) hx hb d_Control_readSensors_36 rfl ?_
  refine lv_ladd hx hb d_Control_readSensors_37 ?_
  refine va_put (D := (dC, dI)) (ci := 6) (v := .long ((M.2.1 2) + ((u1.2.2.1)).toInt64)) (ty := .long) (C := "CentrifugeUnit$Run") (T := xF6) (N := 8) hx hb htt xin6 xT6 xTo6 xNm6 hown hK hP hD hS 1 rfl rfl 1 (by decide) (htt _ tw_198) (fun _ h9 => h9) rfl (by decide +kernel) rfl rfl (Nat.le_of_ble_eq_true rfl) d_Control_readSensors_38 (fun H locs hP hD hS => ?_)
  have hP : va_P (dC, dI) xcl [(A 17, .inr (0, [.ref (A 1), .ref (A 6), .ref (A 11), .ref (A 12), .ref (A 13), .ref (A 18), .ref (A 19), .int (M.1 12), .int (M.1 13), .int (M.1 14), .int (M.1 15), .int (M.1 16), .int (M.1 17), .int (M.1 18)])), (A 19, .inr (6, [.long (M.2.1 1), .long ((M.2.1 2) + ((u1.2.2.1)).toInt64), .int (M.1 23), .int (M.1 24), .int (M.1 25), .int (M.1 26), .int (M.1 27), .int (M.1 28)])), (A 1, .inr (5, [.ref (A 2), .ref (A 3), .ref (A 4), .ref (A 5), .int (M.1 0)])), (A 2, .inl (Z 0, 4, .inl (M.2.2.1 2))), (A 10, .inr (2, [.long (M.2.1 0)])), (A 18, .inr (8, [.int (M.1 19), .int (u3.1), .int (u3.2.1), .int (u3.2.2)])), (A 11, .inr (7, [.int (M.1 2), .int (M.1 3), .int (u1.1), .int (u1.2.1), .int (u1.2.2.1), .int (u1.2.2.2)]))] H := hP
  have hD : va_D AA [(A 17, .inr (0, [.ref (A 1), .ref (A 6), .ref (A 11), .ref (A 12), .ref (A 13), .ref (A 18), .ref (A 19), .int (M.1 12), .int (M.1 13), .int (M.1 14), .int (M.1 15), .int (M.1 16), .int (M.1 17), .int (M.1 18)])), (A 19, .inr (6, [.long (M.2.1 1), .long ((M.2.1 2) + ((u1.2.2.1)).toInt64), .int (M.1 23), .int (M.1 24), .int (M.1 25), .int (M.1 26), .int (M.1 27), .int (M.1 28)])), (A 1, .inr (5, [.ref (A 2), .ref (A 3), .ref (A 4), .ref (A 5), .int (M.1 0)])), (A 2, .inl (Z 0, 4, .inl (M.2.2.1 2))), (A 10, .inr (2, [.long (M.2.1 0)])), (A 18, .inr (8, [.int (M.1 19), .int (u3.1), .int (u3.2.1), .int (u3.2.2)])), (A 11, .inr (7, [.int (M.1 2), .int (M.1 3), .int (u1.1), .int (u1.2.1), .int (u1.2.2.1), .int (u1.2.2.2)]))] := hD
  refine lv_aload_n hx hb d_Control_readSensors_41 rfl (lv_at hl 1 rfl) ?_
  have hPc := hP.sub (ws' := [(A 17, xc17 Z A M)]) [0] rfl
  have hDc := hD.sub (ws' := [(A 17, xc17 Z A M)]) [0] (by decide) rfl
  refine xk_p (va_runV (As := []) (rest := []) ⟨hx, hb, hml, hown, hts⟩ (c_Control_turning l dC dI Z A _ M) (cwV 0 hts (xw_V _ tw_620 tw_622 tp_2 tw_9 tw_623) rfl rfl rfl (by decide +kernel) ⟨Nat.le_of_ble_eq_true rfl, Nat.le_of_ble_eq_true rfl⟩) ⟨xB_blind, va_recv (q0 := 0) (ci := 0) hK hP rfl rfl, fun U hU hW => ⟨rfl, xB_at hPc hK hDc hq U hU hW⟩⟩ rfl rfl hl.1 rfl (lv_room (Nat.le_of_ble_eq_true rfl)) d_Control_readSensors_42 ⟨Nat.le_of_ble_eq_true rfl, Nat.le_of_ble_eq_true rfl⟩) ?_
  refine lv_topi (fun z5 hz5 => ?_)
  refine xj_h (D := (dC, dI)) (cl := xcl) (AA := AA) (H0 := s.heap) 3 73 (fun q9 : Int64 × Int32 × Int32 => [(2, .int (u1.2.2.1)), (0, .ref (A 17)), (1, .ref (A 10))]) (fun q9 : Int64 × Int32 × Int32 => []) (fun q9 : Int64 × Int32 × Int32 => [(A 17, .inr (0, [.ref (A 1), .ref (A 6), .ref (A 11), .ref (A 12), .ref (A 13), .ref (A 18), .ref (A 19), .int (M.1 12), .int (M.1 13), .int (M.1 14), .int (M.1 15), .int (M.1 16), .int (M.1 17), .int (M.1 18)])), (A 19, .inr (6, [.long (M.2.1 1), .long (q9.1), .int (q9.2.2), .int (q9.2.1), .int (M.1 25), .int (M.1 26), .int (M.1 27), .int (M.1 28)])), (A 1, .inr (5, [.ref (A 2), .ref (A 3), .ref (A 4), .ref (A 5), .int (M.1 0)])), (A 2, .inl (Z 0, 4, .inl (M.2.2.1 2))), (A 10, .inr (2, [.long (M.2.1 0)])), (A 18, .inr (8, [.int (M.1 19), .int (u3.1), .int (u3.2.1), .int (u3.2.2)])), (A 11, .inr (7, [.int (M.1 2), .int (M.1 3), .int (u1.1), .int (u1.2.1), .int (u1.2.2.1), .int (u1.2.2.2)]))]) (fun q9 : Int64 × Int32 × Int32 => q9 = J_Control_readSensors_9 M u1 u3 z5) (fun hJ8 => ?_) (fun H locs ls j7 hP hD hS hl hj7 => ?_)
  · refine lv_if_eq (tgt := 73) hx hb d_Control_readSensors_45 rfl (fun h14 => ?_) (fun h14 => ?_)
    · exact hJ8 _ _ _ (((M.2.1 2) + ((u1.2.2.1)).toInt64), (M.1 24), (M.1 23)) (hP.sub [0, 1, 2, 3, 4, 5, 6] rfl) (hD.sub [0, 1, 2, 3, 4, 5, 6] (by decide) rfl) hS (lv_sub hl [0, 1, 2] rfl) (by rw [J_Control_readSensors_9, if_pos h14])
    · refine lv_aload_n hx hb d_Control_readSensors_48 rfl (lv_at hl 1 rfl) ?_
      refine va_get (D := (dC, dI)) (ci := 0) (v := .ref (A 19)) (C := "CentrifugeUnit$Control") (T := xF0) (N := 14) hx hb htt xin0 hown hK hP 0 rfl rfl 6 (by decide) (htt _ tw_238) (fun _ h9 => h9) rfl d_Control_readSensors_49 ?_
      refine va_get (D := (dC, dI)) (ci := 6) (v := .long ((M.2.1 2) + ((u1.2.2.1)).toInt64)) (C := "CentrifugeUnit$Run") (T := xF6) (N := 8) hx hb htt xin6 hown hK hP 1 rfl rfl 1 (by decide) (htt _ tw_198) (fun _ h9 => h9) rfl d_Control_readSensors_52 ?_
      refine lv_ldc2 (v := 300000) hx hb hown (htt _ tw_624) d_Control_readSensors_55 ?_
      refine W.lcmp hx hb d_Control_readSensors_58 ?_
      refine lv_if_lt (tgt := 73) hx hb d_Control_readSensors_59 rfl (fun h15 => ?_) (fun h15 => ?_)
      · exact hJ8 _ _ _ (((M.2.1 2) + ((u1.2.2.1)).toInt64), (M.1 24), (M.1 23)) (hP.sub [0, 1, 2, 3, 4, 5, 6] rfl) (hD.sub [0, 1, 2, 3, 4, 5, 6] (by decide) rfl) hS (lv_sub hl [0, 1, 2] rfl) (by rw [J_Control_readSensors_9, if_neg h14, if_pos h15])
      · refine lv_aload_n hx hb d_Control_readSensors_62 rfl (lv_at hl 1 rfl) ?_
        refine va_get (D := (dC, dI)) (ci := 0) (v := .ref (A 19)) (C := "CentrifugeUnit$Control") (T := xF0) (N := 14) hx hb htt xin0 hown hK hP 0 rfl rfl 6 (by decide) (htt _ tw_238) (fun _ h9 => h9) rfl d_Control_readSensors_63 ?_
        refine lv_aload_n hx hb d_Control_readSensors_66 rfl (lv_at hl 1 rfl) ?_
        refine va_get (D := (dC, dI)) (ci := 0) (v := .ref (A 1)) (C := "CentrifugeUnit$Control") (T := xF0) (N := 14) hx hb htt xin0 hown hK hP 0 rfl rfl 0 (by decide) (htt _ tw_231) (fun _ h9 => h9) rfl d_Control_readSensors_67 ?_
        have hPc := hP.sub (ws' := [(A 19, xc19 Z A (M.1, (va_up M.2.1 2 ((M.2.1 2) + ((u1.2.2.1)).toInt64)), M.2.2)), (A 1, xc1 Z A (M.1, (va_up M.2.1 2 ((M.2.1 2) + ((u1.2.2.1)).toInt64)), M.2.2)), (A 2, xc2 Z A (M.1, (va_up M.2.1 2 ((M.2.1 2) + ((u1.2.2.1)).toInt64)), M.2.2))]) [1, 2, 3] rfl
        have hDc := hD.sub (ws' := [(A 19, xc19 Z A (M.1, (va_up M.2.1 2 ((M.2.1 2) + ((u1.2.2.1)).toInt64)), M.2.2)), (A 1, xc1 Z A (M.1, (va_up M.2.1 2 ((M.2.1 2) + ((u1.2.2.1)).toInt64)), M.2.2)), (A 2, xc2 Z A (M.1, (va_up M.2.1 2 ((M.2.1 2) + ((u1.2.2.1)).toInt64)), M.2.2))]) [1, 2, 3] (by decide) rfl
        refine xk_v (wc := [(A 19, xc19 Z A (M.1, (va_up M.2.1 2 ((M.2.1 2) + ((u1.2.2.1)).toInt64)), M.2.2)), (A 1, xc1 Z A (M.1, (va_up M.2.1 2 ((M.2.1 2) + ((u1.2.2.1)).toInt64)), M.2.2)), (A 2, xc2 Z A (M.1, (va_up M.2.1 2 ((M.2.1 2) + ((u1.2.2.1)).toInt64)), M.2.2))]) (wr := [(A 17, .inr (0, [.ref (A 1), .ref (A 6), .ref (A 11), .ref (A 12), .ref (A 13), .ref (A 18), .ref (A 19), .int (M.1 12), .int (M.1 13), .int (M.1 14), .int (M.1 15), .int (M.1 16), .int (M.1 17), .int (M.1 18)])), (A 10, .inr (2, [.long (M.2.1 0)])), (A 18, .inr (8, [.int (M.1 19), .int (u3.1), .int (u3.2.1), .int (u3.2.2)])), (A 11, .inr (7, [.int (M.1 2), .int (M.1 3), .int (u1.1), .int (u1.2.1), .int (u1.2.2.1), .int (u1.2.2.2)]))]) (va_runV (As := [.ref (A 1)]) (rest := []) ⟨hx, hb, hml, hown, hts⟩ (c_Run_readPattern l dC dI Z A _ (M.1, (va_up M.2.1 2 ((M.2.1 2) + ((u1.2.2.1)).toInt64)), M.2.2)) (cwV 1 hts (xw_V _ tw_625 tw_626 tw_627 tw_11 tw_628) rfl rfl rfl (by decide +kernel) ⟨Nat.le_of_ble_eq_true rfl, Nat.le_of_ble_eq_true rfl⟩) ⟨xB_blind, va_recv (q0 := 1) (ci := 6) hK hP rfl rfl, fun U hU hW => ⟨rfl, xB_at hPc hK hDc hq U hU hW⟩⟩ rfl rfl hl.1 rfl (lv_room (Nat.le_of_ble_eq_true rfl)) d_Control_readSensors_70 ⟨Nat.le_of_ble_eq_true rfl, Nat.le_of_ble_eq_true rfl⟩) hP hD hS hA [1, 2, 3] [0, 4, 5, 6] rfl rfl (by decide) (by decide) (fun u16 H locs hu16 hP hD hS => ?_)
        have hP : va_P (dC, dI) xcl [(A 17, .inr (0, [.ref (A 1), .ref (A 6), .ref (A 11), .ref (A 12), .ref (A 13), .ref (A 18), .ref (A 19), .int (M.1 12), .int (M.1 13), .int (M.1 14), .int (M.1 15), .int (M.1 16), .int (M.1 17), .int (M.1 18)])), (A 10, .inr (2, [.long (M.2.1 0)])), (A 18, .inr (8, [.int (M.1 19), .int (u3.1), .int (u3.2.1), .int (u3.2.2)])), (A 11, .inr (7, [.int (M.1 2), .int (M.1 3), .int (u1.1), .int (u1.2.1), .int (u1.2.2.1), .int (u1.2.2.2)])), (A 19, .inr (6, [.long (M.2.1 1), .long (u16.1), .int (u16.2.2), .int (u16.2.1), .int (M.1 25), .int (M.1 26), .int (M.1 27), .int (M.1 28)])), (A 1, .inr (5, [.ref (A 2), .ref (A 3), .ref (A 4), .ref (A 5), .int (M.1 0)])), (A 2, .inl (Z 0, 4, .inl (M.2.2.1 2)))] H := hP
        have hD : va_D AA [(A 17, .inr (0, [.ref (A 1), .ref (A 6), .ref (A 11), .ref (A 12), .ref (A 13), .ref (A 18), .ref (A 19), .int (M.1 12), .int (M.1 13), .int (M.1 14), .int (M.1 15), .int (M.1 16), .int (M.1 17), .int (M.1 18)])), (A 10, .inr (2, [.long (M.2.1 0)])), (A 18, .inr (8, [.int (M.1 19), .int (u3.1), .int (u3.2.1), .int (u3.2.2)])), (A 11, .inr (7, [.int (M.1 2), .int (M.1 3), .int (u1.1), .int (u1.2.1), .int (u1.2.2.1), .int (u1.2.2.2)])), (A 19, .inr (6, [.long (M.2.1 1), .long (u16.1), .int (u16.2.2), .int (u16.2.1), .int (M.1 25), .int (M.1 26), .int (M.1 27), .int (M.1 28)])), (A 1, .inr (5, [.ref (A 2), .ref (A 3), .ref (A 4), .ref (A 5), .int (M.1 0)])), (A 2, .inl (Z 0, 4, .inl (M.2.2.1 2)))] := hD
        exact hJ8 _ _ _ ((u16.1), (u16.2.1), (u16.2.2)) (hP.sub [0, 4, 5, 6, 1, 2, 3] rfl) (hD.sub [0, 4, 5, 6, 1, 2, 3] (by decide) rfl) hS (lv_sub hl [0, 1, 2] rfl) (by rw [J_Control_readSensors_9, if_neg h14, if_neg h15, ← hu16, F_Control_readSensors_k17])
  · refine lv_aload_n hx hb d_Control_readSensors_73 rfl (lv_at hl 1 rfl) ?_
    refine va_get (D := (dC, dI)) (ci := 0) (v := .int (M.1 14)) (C := "CentrifugeUnit$Control") (T := xF0) (N := 14) hx hb htt xin0 hown hK hP 0 rfl rfl 9 (by decide) (htt _ tw_244) (fun _ h9 => h9) rfl d_Control_readSensors_74 ?_
    refine lv_if_eq (tgt := 98) hx hb d_Control_readSensors_77 rfl (fun h11 => ?_) (fun h11 => ?_)
    · have hP9 := hP.sub (ws' := [(A 17, xc17 Z A (ap_Control_readSensors M ((u1.1), (u1.2.1), (u1.2.2.1), (u1.2.2.2), (u3.1), (u3.2.1), (u3.2.2), (j7.1), (j7.2.1), (j7.2.2), (M.1 25)))), (A 10, xc10 Z A (ap_Control_readSensors M ((u1.1), (u1.2.1), (u1.2.2.1), (u1.2.2.2), (u3.1), (u3.2.1), (u3.2.2), (j7.1), (j7.2.1), (j7.2.2), (M.1 25)))), (A 11, xc11 Z A (ap_Control_readSensors M ((u1.1), (u1.2.1), (u1.2.2.1), (u1.2.2.2), (u3.1), (u3.2.1), (u3.2.2), (j7.1), (j7.2.1), (j7.2.2), (M.1 25)))), (A 18, xc18 Z A (ap_Control_readSensors M ((u1.1), (u1.2.1), (u1.2.2.1), (u1.2.2.2), (u3.1), (u3.2.1), (u3.2.2), (j7.1), (j7.2.1), (j7.2.2), (M.1 25)))), (A 19, xc19 Z A (ap_Control_readSensors M ((u1.1), (u1.2.1), (u1.2.2.1), (u1.2.2.2), (u3.1), (u3.2.1), (u3.2.2), (j7.1), (j7.2.1), (j7.2.2), (M.1 25)))), (A 1, xc1 Z A (ap_Control_readSensors M ((u1.1), (u1.2.1), (u1.2.2.1), (u1.2.2.2), (u3.1), (u3.2.1), (u3.2.2), (j7.1), (j7.2.1), (j7.2.2), (M.1 25)))), (A 2, xc2 Z A (ap_Control_readSensors M ((u1.1), (u1.2.1), (u1.2.2.1), (u1.2.2.2), (u3.1), (u3.2.1), (u3.2.2), (j7.1), (j7.2.1), (j7.2.2), (M.1 25))))]) [0, 4, 6, 5, 1, 2, 3] rfl
      have hD9 := hD.sub (ws' := [(A 17, xc17 Z A (ap_Control_readSensors M ((u1.1), (u1.2.1), (u1.2.2.1), (u1.2.2.2), (u3.1), (u3.2.1), (u3.2.2), (j7.1), (j7.2.1), (j7.2.2), (M.1 25)))), (A 10, xc10 Z A (ap_Control_readSensors M ((u1.1), (u1.2.1), (u1.2.2.1), (u1.2.2.2), (u3.1), (u3.2.1), (u3.2.2), (j7.1), (j7.2.1), (j7.2.2), (M.1 25)))), (A 11, xc11 Z A (ap_Control_readSensors M ((u1.1), (u1.2.1), (u1.2.2.1), (u1.2.2.2), (u3.1), (u3.2.1), (u3.2.2), (j7.1), (j7.2.1), (j7.2.2), (M.1 25)))), (A 18, xc18 Z A (ap_Control_readSensors M ((u1.1), (u1.2.1), (u1.2.2.1), (u1.2.2.2), (u3.1), (u3.2.1), (u3.2.2), (j7.1), (j7.2.1), (j7.2.2), (M.1 25)))), (A 19, xc19 Z A (ap_Control_readSensors M ((u1.1), (u1.2.1), (u1.2.2.1), (u1.2.2.2), (u3.1), (u3.2.1), (u3.2.2), (j7.1), (j7.2.1), (j7.2.2), (M.1 25)))), (A 1, xc1 Z A (ap_Control_readSensors M ((u1.1), (u1.2.1), (u1.2.2.1), (u1.2.2.2), (u3.1), (u3.2.1), (u3.2.2), (j7.1), (j7.2.1), (j7.2.2), (M.1 25)))), (A 2, xc2 Z A (ap_Control_readSensors M ((u1.1), (u1.2.1), (u1.2.2.1), (u1.2.2.2), (u3.1), (u3.2.1), (u3.2.2), (j7.1), (j7.2.1), (j7.2.2), (M.1 25))))]) [0, 4, 6, 5, 1, 2, 3] (by decide) rfl
      exact W.vret hx hb hr (fun t ht hW => ⟨⟨((u1.1), (u1.2.1), (u1.2.2.1), (u1.2.2.2), (u3.1), (u3.2.1), (u3.2.2), (j7.1), (j7.2.1), (j7.2.2), (M.1 25)), rfl, (by rw [F_Control_readSensors, ← hu1, F_Control_readSensors_k2, ← hu3, F_Control_readSensors_k4, ← hz5, F_Control_readSensors_k6, ← hj7, F_Control_readSensors_k10, if_pos h11]), xE_at hP9 hK hD9 ht hW⟩, hS.F ht⟩) hS.2.2 d_Control_readSensors_98
    · refine lv_aload_n hx hb d_Control_readSensors_80 rfl (lv_at hl 1 rfl) ?_
      refine va_get (D := (dC, dI)) (ci := 0) (v := .ref (A 19)) (C := "CentrifugeUnit$Control") (T := xF0) (N := 14) hx hb htt xin0 hown hK hP 0 rfl rfl 6 (by decide) (htt _ tw_238) (fun _ h9 => h9) rfl d_Control_readSensors_81 ?_
      refine lv_aload_n hx hb d_Control_readSensors_84 rfl (lv_at hl 1 rfl) ?_
      refine va_get (D := (dC, dI)) (ci := 0) (v := .ref (A 19)) (C := "CentrifugeUnit$Control") (T := xF0) (N := 14) hx hb htt xin0 hown hK hP 0 rfl rfl 6 (by decide) (htt _ tw_238) (fun _ h9 => h9) rfl d_Control_readSensors_85 ?_
      refine va_get (D := (dC, dI)) (ci := 6) (v := .int (M.1 25)) (C := "CentrifugeUnit$Run") (T := xF6) (N := 8) hx hb htt xin6 hown hK hP 1 rfl rfl 4 (by decide) (htt _ tw_205) (fun _ h9 => h9) rfl d_Control_readSensors_88 ?_
      refine lv_iload_n hx hb d_Control_readSensors_91 rfl (lv_at hl 0 rfl) ?_
      refine va_mmax hx hb (hml.trans hl.1.symm) hown (htt _ tw_634) (htt _ tw_611) (htt _ tw_18) (htt _ tw_612) (Nat.le_of_ble_eq_true rfl) (Nat.le_of_ble_eq_true rfl) (Nat.le_of_ble_eq_true rfl) (Nat.le_of_ble_eq_true rfl) d_Control_readSensors_92 ?_
      refine lv_topi (fun z12 hz12 => ?_)
      refine va_put (D := (dC, dI)) (ci := 6) (v := .int z12) (ty := .int) (C := "CentrifugeUnit$Run") (T := xF6) (N := 8) hx hb htt xin6 xT6 xTo6 xNm6 hown hK hP hD hS 1 rfl rfl 4 (by decide) (htt _ tw_205) (fun _ h9 => h9) rfl (by decide +kernel) rfl rfl (Nat.le_of_ble_eq_true rfl) d_Control_readSensors_95 (fun H locs hP hD hS => ?_)
      have hP : va_P (dC, dI) xcl [(A 17, .inr (0, [.ref (A 1), .ref (A 6), .ref (A 11), .ref (A 12), .ref (A 13), .ref (A 18), .ref (A 19), .int (M.1 12), .int (M.1 13), .int (M.1 14), .int (M.1 15), .int (M.1 16), .int (M.1 17), .int (M.1 18)])), (A 19, .inr (6, [.long (M.2.1 1), .long (j7.1), .int (j7.2.2), .int (j7.2.1), .int z12, .int (M.1 26), .int (M.1 27), .int (M.1 28)])), (A 1, .inr (5, [.ref (A 2), .ref (A 3), .ref (A 4), .ref (A 5), .int (M.1 0)])), (A 2, .inl (Z 0, 4, .inl (M.2.2.1 2))), (A 10, .inr (2, [.long (M.2.1 0)])), (A 18, .inr (8, [.int (M.1 19), .int (u3.1), .int (u3.2.1), .int (u3.2.2)])), (A 11, .inr (7, [.int (M.1 2), .int (M.1 3), .int (u1.1), .int (u1.2.1), .int (u1.2.2.1), .int (u1.2.2.2)]))] H := hP
      have hD : va_D AA [(A 17, .inr (0, [.ref (A 1), .ref (A 6), .ref (A 11), .ref (A 12), .ref (A 13), .ref (A 18), .ref (A 19), .int (M.1 12), .int (M.1 13), .int (M.1 14), .int (M.1 15), .int (M.1 16), .int (M.1 17), .int (M.1 18)])), (A 19, .inr (6, [.long (M.2.1 1), .long (j7.1), .int (j7.2.2), .int (j7.2.1), .int z12, .int (M.1 26), .int (M.1 27), .int (M.1 28)])), (A 1, .inr (5, [.ref (A 2), .ref (A 3), .ref (A 4), .ref (A 5), .int (M.1 0)])), (A 2, .inl (Z 0, 4, .inl (M.2.2.1 2))), (A 10, .inr (2, [.long (M.2.1 0)])), (A 18, .inr (8, [.int (M.1 19), .int (u3.1), .int (u3.2.1), .int (u3.2.2)])), (A 11, .inr (7, [.int (M.1 2), .int (M.1 3), .int (u1.1), .int (u1.2.1), .int (u1.2.2.1), .int (u1.2.2.2)]))] := hD
      have hP9 := hP.sub (ws' := [(A 17, xc17 Z A (ap_Control_readSensors M ((u1.1), (u1.2.1), (u1.2.2.1), (u1.2.2.2), (u3.1), (u3.2.1), (u3.2.2), (j7.1), (j7.2.1), (j7.2.2), z12))), (A 10, xc10 Z A (ap_Control_readSensors M ((u1.1), (u1.2.1), (u1.2.2.1), (u1.2.2.2), (u3.1), (u3.2.1), (u3.2.2), (j7.1), (j7.2.1), (j7.2.2), z12))), (A 11, xc11 Z A (ap_Control_readSensors M ((u1.1), (u1.2.1), (u1.2.2.1), (u1.2.2.2), (u3.1), (u3.2.1), (u3.2.2), (j7.1), (j7.2.1), (j7.2.2), z12))), (A 18, xc18 Z A (ap_Control_readSensors M ((u1.1), (u1.2.1), (u1.2.2.1), (u1.2.2.2), (u3.1), (u3.2.1), (u3.2.2), (j7.1), (j7.2.1), (j7.2.2), z12))), (A 19, xc19 Z A (ap_Control_readSensors M ((u1.1), (u1.2.1), (u1.2.2.1), (u1.2.2.2), (u3.1), (u3.2.1), (u3.2.2), (j7.1), (j7.2.1), (j7.2.2), z12))), (A 1, xc1 Z A (ap_Control_readSensors M ((u1.1), (u1.2.1), (u1.2.2.1), (u1.2.2.2), (u3.1), (u3.2.1), (u3.2.2), (j7.1), (j7.2.1), (j7.2.2), z12))), (A 2, xc2 Z A (ap_Control_readSensors M ((u1.1), (u1.2.1), (u1.2.2.1), (u1.2.2.2), (u3.1), (u3.2.1), (u3.2.2), (j7.1), (j7.2.1), (j7.2.2), z12)))]) [0, 4, 6, 5, 1, 2, 3] rfl
      have hD9 := hD.sub (ws' := [(A 17, xc17 Z A (ap_Control_readSensors M ((u1.1), (u1.2.1), (u1.2.2.1), (u1.2.2.2), (u3.1), (u3.2.1), (u3.2.2), (j7.1), (j7.2.1), (j7.2.2), z12))), (A 10, xc10 Z A (ap_Control_readSensors M ((u1.1), (u1.2.1), (u1.2.2.1), (u1.2.2.2), (u3.1), (u3.2.1), (u3.2.2), (j7.1), (j7.2.1), (j7.2.2), z12))), (A 11, xc11 Z A (ap_Control_readSensors M ((u1.1), (u1.2.1), (u1.2.2.1), (u1.2.2.2), (u3.1), (u3.2.1), (u3.2.2), (j7.1), (j7.2.1), (j7.2.2), z12))), (A 18, xc18 Z A (ap_Control_readSensors M ((u1.1), (u1.2.1), (u1.2.2.1), (u1.2.2.2), (u3.1), (u3.2.1), (u3.2.2), (j7.1), (j7.2.1), (j7.2.2), z12))), (A 19, xc19 Z A (ap_Control_readSensors M ((u1.1), (u1.2.1), (u1.2.2.1), (u1.2.2.2), (u3.1), (u3.2.1), (u3.2.2), (j7.1), (j7.2.1), (j7.2.2), z12))), (A 1, xc1 Z A (ap_Control_readSensors M ((u1.1), (u1.2.1), (u1.2.2.1), (u1.2.2.2), (u3.1), (u3.2.1), (u3.2.2), (j7.1), (j7.2.1), (j7.2.2), z12))), (A 2, xc2 Z A (ap_Control_readSensors M ((u1.1), (u1.2.1), (u1.2.2.1), (u1.2.2.2), (u3.1), (u3.2.1), (u3.2.2), (j7.1), (j7.2.1), (j7.2.2), z12)))]) [0, 4, 6, 5, 1, 2, 3] (by decide) rfl
      exact W.vret hx hb hr (fun t ht hW => ⟨⟨((u1.1), (u1.2.1), (u1.2.2.1), (u1.2.2.2), (u3.1), (u3.2.1), (u3.2.2), (j7.1), (j7.2.1), (j7.2.2), z12), rfl, (by rw [F_Control_readSensors, ← hu1, F_Control_readSensors_k2, ← hu3, F_Control_readSensors_k4, ← hz5, F_Control_readSensors_k6, ← hj7, F_Control_readSensors_k10, if_neg h11, ← hz12, F_Control_readSensors_k13]), xE_at hP9 hK hD9 ht hW⟩, hS.F ht⟩) hS.2.2 d_Control_readSensors_98
abbrev bc_Control_faultReason : ByteArray := prog_2_method_11_code
def y_Control_faultReason : MethodName := ⟨"CentrifugeUnit$Control", "faultReason", "()I"⟩
theorem d_Control_faultReason_0 : decode bc_Control_faultReason 0 = .ok (.aload_n 0, 1) := by decide +kernel
theorem d_Control_faultReason_1 : decode bc_Control_faultReason 1 = .ok (.getfield 51, 3) := by decide +kernel
theorem d_Control_faultReason_4 : decode bc_Control_faultReason 4 = .ok (.invokevirtual 134, 3) := by decide +kernel
theorem d_Control_faultReason_7 : decode bc_Control_faultReason 7 = .ok (.ifCond .ne 5, 3) := by decide +kernel
theorem d_Control_faultReason_10 : decode bc_Control_faultReason 10 = .ok (.iconst 1, 1) := by decide +kernel
theorem d_Control_faultReason_11 : decode bc_Control_faultReason 11 = .ok (.ireturn, 1) := by decide +kernel
theorem d_Control_faultReason_12 : decode bc_Control_faultReason 12 = .ok (.aload_n 0, 1) := by decide +kernel
theorem d_Control_faultReason_13 : decode bc_Control_faultReason 13 = .ok (.getfield 21, 3) := by decide +kernel
theorem d_Control_faultReason_16 : decode bc_Control_faultReason 16 = .ok (.getfield 137, 3) := by decide +kernel
theorem d_Control_faultReason_19 : decode bc_Control_faultReason 19 = .ok (.ifCond .eq 5, 3) := by decide +kernel
theorem d_Control_faultReason_22 : decode bc_Control_faultReason 22 = .ok (.iconst 2, 1) := by decide +kernel
theorem d_Control_faultReason_23 : decode bc_Control_faultReason 23 = .ok (.ireturn, 1) := by decide +kernel
theorem d_Control_faultReason_24 : decode bc_Control_faultReason 24 = .ok (.aload_n 0, 1) := by decide +kernel
theorem d_Control_faultReason_25 : decode bc_Control_faultReason 25 = .ok (.getfield 47, 3) := by decide +kernel
theorem d_Control_faultReason_28 : decode bc_Control_faultReason 28 = .ok (.getfield 105, 3) := by decide +kernel
theorem d_Control_faultReason_31 : decode bc_Control_faultReason 31 = .ok (.aload_n 0, 1) := by decide +kernel
theorem d_Control_faultReason_32 : decode bc_Control_faultReason 32 = .ok (.getfield 39, 3) := by decide +kernel
theorem d_Control_faultReason_35 : decode bc_Control_faultReason 35 = .ok (.aload_n 0, 1) := by decide +kernel
theorem d_Control_faultReason_36 : decode bc_Control_faultReason 36 = .ok (.getfield 21, 3) := by decide +kernel
theorem d_Control_faultReason_39 : decode bc_Control_faultReason 39 = .ok (.getfield 140, 3) := by decide +kernel
theorem d_Control_faultReason_42 : decode bc_Control_faultReason 42 = .ok (.invokevirtual 143, 3) := by decide +kernel
theorem d_Control_faultReason_45 : decode bc_Control_faultReason 45 = .ok (.if_icmp .le 5, 3) := by decide +kernel
theorem d_Control_faultReason_48 : decode bc_Control_faultReason 48 = .ok (.iconst 3, 1) := by decide +kernel
theorem d_Control_faultReason_49 : decode bc_Control_faultReason 49 = .ok (.ireturn, 1) := by decide +kernel
theorem d_Control_faultReason_50 : decode bc_Control_faultReason 50 = .ok (.aload_n 0, 1) := by decide +kernel
theorem d_Control_faultReason_51 : decode bc_Control_faultReason 51 = .ok (.getfield 12, 3) := by decide +kernel
theorem d_Control_faultReason_54 : decode bc_Control_faultReason 54 = .ok (.invokevirtual 149, 3) := by decide +kernel
theorem d_Control_faultReason_57 : decode bc_Control_faultReason 57 = .ok (.ifCond .eq 5, 3) := by decide +kernel
theorem d_Control_faultReason_60 : decode bc_Control_faultReason 60 = .ok (.iconst 4, 1) := by decide +kernel
theorem d_Control_faultReason_61 : decode bc_Control_faultReason 61 = .ok (.ireturn, 1) := by decide +kernel
theorem d_Control_faultReason_62 : decode bc_Control_faultReason 62 = .ok (.aload_n 0, 1) := by decide +kernel
theorem d_Control_faultReason_63 : decode bc_Control_faultReason 63 = .ok (.getfield 12, 3) := by decide +kernel
theorem d_Control_faultReason_66 : decode bc_Control_faultReason 66 = .ok (.invokevirtual 152, 3) := by decide +kernel
theorem d_Control_faultReason_69 : decode bc_Control_faultReason 69 = .ok (.ifCond .eq 7, 3) := by decide +kernel
theorem d_Control_faultReason_72 : decode bc_Control_faultReason 72 = .ok (.iconst 5, 1) := by decide +kernel
theorem d_Control_faultReason_73 : decode bc_Control_faultReason 73 = .ok (.goto 4, 3) := by decide +kernel
theorem d_Control_faultReason_76 : decode bc_Control_faultReason 76 = .ok (.iconst 0, 1) := by decide +kernel
theorem d_Control_faultReason_77 : decode bc_Control_faultReason 77 = .ok (.ireturn, 1) := by decide +kernel
def F_Control_faultReason_k12 (M : XM) (z1 : Int32) (z5 : Int32) (z8 : Int32) (z11 : Int32) : Int32 := (if z11 = 0 then 0 else 5)
def F_Control_faultReason_k9 (M : XM) (z1 : Int32) (z5 : Int32) (z8 : Int32) : Int32 := (if z8 = 0 then (F_Control_faultReason_k12 M z1 z5 z8 (F_Watch_differsTooLong M)) else 4)
def F_Control_faultReason_k6 (M : XM) (z1 : Int32) (z5 : Int32) : Int32 := (if (M.1 6) ≤ z5 then (F_Control_faultReason_k9 M z1 z5 (F_Watch_shakesTooLong M)) else 3)
def F_Control_faultReason_k2 (M : XM) (z1 : Int32) : Int32 := (if z1 = 0 then 1 else (if (M.1 24) = 0 then (F_Control_faultReason_k6 M z1 (F_Rotors_limitOf M (M.1 23))) else 2))
def F_Control_faultReason (M : XM) : Int32 := (F_Control_faultReason_k2 M (F_Lid_locked M))
set_option maxHeartbeats 4000000 in
set_option maxRecDepth 100000 in
theorem c_Control_faultReason (l : Launch) (dC : Nat → ClassId) (dI : Nat → Nat → Nat) (Z : Nat → ClassId) (A : Nat → Nat) (sz : Nat) (M : XM) : Met l y_Control_faultReason (.code y_Control_faultReason bc_Control_faultReason 1 (some .int) :: xw) ({ frames := 3, cells := 0, slots := 0, locals := 63 }) (va_Pc [.ref (A 17)] (xB (dC, dI) xcl (xty Z) sz [(A 17, xc17 Z A M), (A 12, xc12 Z A M), (A 19, xc19 Z A M), (A 11, xc11 Z A M), (A 1, xc1 Z A M), (A 4, xc4 Z A M), (A 18, xc18 Z A M)])) (k2_QcV (.int (F_Control_faultReason M))) 0 0 (fun _ => False) := by
  refine Met.ofW (cc := bc_Control_faultReason) (maxL := 1) (ret := (some .int)) (by decide) rfl ?_
  intro p e s m args below meth c s₁ B hml hv
  obtain ⟨rfl, hsz, hP, hK, hD0, hq⟩ := hv
  have hx := B.exec
  have hb := B.bytes
  have hr := B.returns
  have hts := atoms_spec (ws := (.code y_Control_faultReason bc_Control_faultReason 1 (some .int) :: xw)) B.pre
  have htt : ∀ w ∈ xw, w.before _ s = true := fun w h => hts w (List.mem_cons_of_mem _ h)
  have hown : s.vm.findClass "CentrifugeUnit$Control" = some m.cls := findClass_of_methodNamed B.named
  have hlocks := B.notSynchronized
  subst hsz
  have hD : va_D (fun _ => True) [(A 17, .inr (0, [.ref (A 1), .ref (A 6), .ref (A 11), .ref (A 12), .ref (A 13), .ref (A 18), .ref (A 19), .int (M.1 12), .int (M.1 13), .int (M.1 14), .int (M.1 15), .int (M.1 16), .int (M.1 17), .int (M.1 18)])), (A 12, .inr (1, [.int (M.1 8), .int (M.1 9), .int (M.1 10)])), (A 19, .inr (6, [.long (M.2.1 1), .long (M.2.1 2), .int (M.1 23), .int (M.1 24), .int (M.1 25), .int (M.1 26), .int (M.1 27), .int (M.1 28)])), (A 11, .inr (7, [.int (M.1 2), .int (M.1 3), .int (M.1 4), .int (M.1 5), .int (M.1 6), .int (M.1 7)])), (A 1, .inr (5, [.ref (A 2), .ref (A 3), .ref (A 4), .ref (A 5), .int (M.1 0)])), (A 4, .inl (Z 0, 4, .inl (M.2.2.1 4))), (A 18, .inr (8, [.int (M.1 19), .int (M.1 20), .int (M.1 21), .int (M.1 22)]))] := hD0
  have hP : va_P (dC, dI) xcl [(A 17, .inr (0, [.ref (A 1), .ref (A 6), .ref (A 11), .ref (A 12), .ref (A 13), .ref (A 18), .ref (A 19), .int (M.1 12), .int (M.1 13), .int (M.1 14), .int (M.1 15), .int (M.1 16), .int (M.1 17), .int (M.1 18)])), (A 12, .inr (1, [.int (M.1 8), .int (M.1 9), .int (M.1 10)])), (A 19, .inr (6, [.long (M.2.1 1), .long (M.2.1 2), .int (M.1 23), .int (M.1 24), .int (M.1 25), .int (M.1 26), .int (M.1 27), .int (M.1 28)])), (A 11, .inr (7, [.int (M.1 2), .int (M.1 3), .int (M.1 4), .int (M.1 5), .int (M.1 6), .int (M.1 7)])), (A 1, .inr (5, [.ref (A 2), .ref (A 3), .ref (A 4), .ref (A 5), .int (M.1 0)])), (A 4, .inl (Z 0, 4, .inl (M.2.2.1 4))), (A 18, .inr (8, [.int (M.1 19), .int (M.1 20), .int (M.1 21), .int (M.1 22)]))] s.heap := hP
  have hl := lv_entry ([.ref (A 17)]) (n := 1) (Nat.le_of_ble_eq_true rfl)
  rw [lg_entry_eq]
  generalize (lg_sl ([.ref (A 17)]) ++ List.replicate (1 - (lg_sl ([.ref (A 17)])).length) Slot.unset).toArray = ls at hl ⊢
  have hl : lv_has ls 1 [(0, .ref (A 17))] := hl
  refine lv_aload_n hx hb d_Control_faultReason_0 rfl (lv_at hl 0 rfl) ?_
  refine va_get (D := (dC, dI)) (ci := 0) (v := .ref (A 12)) (C := "CentrifugeUnit$Control") (T := xF0) (N := 14) hx hb htt xin0 hown hK hP 0 rfl rfl 3 (by decide) (htt _ tw_234) (fun _ h9 => h9) rfl d_Control_faultReason_1 ?_
  have hPc := hP.sub (ws' := [(A 12, xc12 Z A M)]) [1] rfl
  have hDc := hD.sub (ws' := [(A 12, xc12 Z A M)]) [1] (by decide) rfl
  refine xk_p (va_runV (As := []) (rest := []) ⟨hx, hb, hml, hown, hts⟩ (c_Lid_locked l dC dI Z A _ M) (cwV 0 hts (xw_V _ tw_643 tw_486 tw_487 tw_7 tw_488) rfl rfl rfl (by decide +kernel) ⟨Nat.le_of_ble_eq_true rfl, Nat.le_of_ble_eq_true rfl⟩) ⟨xB_blind, va_recv (q0 := 1) (ci := 1) hK hP rfl rfl, fun U hU hW => ⟨rfl, xB_at hPc hK hDc hq U hU hW⟩⟩ rfl rfl hl.1 rfl (lv_room (Nat.le_of_ble_eq_true rfl)) d_Control_faultReason_4 ⟨Nat.le_of_ble_eq_true rfl, Nat.le_of_ble_eq_true rfl⟩) ?_
  refine lv_topi (fun z1 hz1 => ?_)
  refine lv_if_ne (tgt := 12) hx hb d_Control_faultReason_7 rfl (fun h3 => ?_) (fun h3 => ?_)
  · refine lv_aload_n hx hb d_Control_faultReason_12 rfl (lv_at hl 0 rfl) ?_
    refine va_get (D := (dC, dI)) (ci := 0) (v := .ref (A 19)) (C := "CentrifugeUnit$Control") (T := xF0) (N := 14) hx hb htt xin0 hown hK hP 0 rfl rfl 6 (by decide) (htt _ tw_238) (fun _ h9 => h9) rfl d_Control_faultReason_13 ?_
    refine va_get (D := (dC, dI)) (ci := 6) (v := .int (M.1 24)) (C := "CentrifugeUnit$Run") (T := xF6) (N := 8) hx hb htt xin6 hown hK hP 2 rfl rfl 3 (by decide) (htt _ tw_203) (fun _ h9 => h9) rfl d_Control_faultReason_16 ?_
    refine lv_if_eq (tgt := 24) hx hb d_Control_faultReason_19 rfl (fun h4 => ?_) (fun h4 => ?_)
    · refine lv_aload_n hx hb d_Control_faultReason_24 rfl (lv_at hl 0 rfl) ?_
      refine va_get (D := (dC, dI)) (ci := 0) (v := .ref (A 11)) (C := "CentrifugeUnit$Control") (T := xF0) (N := 14) hx hb htt xin0 hown hK hP 0 rfl rfl 2 (by decide) (htt _ tw_233) (fun _ h9 => h9) rfl d_Control_faultReason_25 ?_
      refine va_get (D := (dC, dI)) (ci := 7) (v := .int (M.1 6)) (C := "CentrifugeUnit$Sensors") (T := xF7) (N := 6) hx hb htt xin7 hown hK hP 3 rfl rfl 4 (by decide) (htt _ tw_105) (fun _ h9 => h9) rfl d_Control_faultReason_28 ?_
      refine lv_aload_n hx hb d_Control_faultReason_31 rfl (lv_at hl 0 rfl) ?_
      refine va_get (D := (dC, dI)) (ci := 0) (v := .ref (A 1)) (C := "CentrifugeUnit$Control") (T := xF0) (N := 14) hx hb htt xin0 hown hK hP 0 rfl rfl 0 (by decide) (htt _ tw_231) (fun _ h9 => h9) rfl d_Control_faultReason_32 ?_
      refine lv_aload_n hx hb d_Control_faultReason_35 rfl (lv_at hl 0 rfl) ?_
      refine va_get (D := (dC, dI)) (ci := 0) (v := .ref (A 19)) (C := "CentrifugeUnit$Control") (T := xF0) (N := 14) hx hb htt xin0 hown hK hP 0 rfl rfl 6 (by decide) (htt _ tw_238) (fun _ h9 => h9) rfl d_Control_faultReason_36 ?_
      refine va_get (D := (dC, dI)) (ci := 6) (v := .int (M.1 23)) (C := "CentrifugeUnit$Run") (T := xF6) (N := 8) hx hb htt xin6 hown hK hP 2 rfl rfl 2 (by decide) (htt _ tw_200) (fun _ h9 => h9) rfl d_Control_faultReason_39 ?_
      have hPc := hP.sub (ws' := [(A 1, xc1 Z A M), (A 4, xc4 Z A M)]) [4, 5] rfl
      have hDc := hD.sub (ws' := [(A 1, xc1 Z A M), (A 4, xc4 Z A M)]) [4, 5] (by decide) rfl
      refine xk_p (va_runV (As := [.int (M.1 23)]) (rest := [.int (M.1 6)]) ⟨hx, hb, hml, hown, hts⟩ (c_Rotors_limitOf l dC dI Z A _ M (M.1 23)) (cwV 1 hts (xw_V _ tw_644 tw_645 tw_646 tw_2 tw_647) rfl rfl rfl (by decide +kernel) ⟨Nat.le_of_ble_eq_true rfl, Nat.le_of_ble_eq_true rfl⟩) ⟨xB_blind, va_recv (q0 := 4) (ci := 5) hK hP rfl rfl, fun U hU hW => ⟨rfl, xB_at hPc hK hDc hq U hU hW⟩⟩ rfl rfl hl.1 rfl (lv_room (Nat.le_of_ble_eq_true rfl)) d_Control_faultReason_42 ⟨Nat.le_of_ble_eq_true rfl, Nat.le_of_ble_eq_true rfl⟩) ?_
      refine lv_topi (fun z5 hz5 => ?_)
      refine lv_icmp_le (tgt := 50) hx hb d_Control_faultReason_45 rfl (fun h7 => ?_) (fun h7 => ?_)
      · refine lv_aload_n hx hb d_Control_faultReason_50 rfl (lv_at hl 0 rfl) ?_
        refine va_get (D := (dC, dI)) (ci := 0) (v := .ref (A 18)) (C := "CentrifugeUnit$Control") (T := xF0) (N := 14) hx hb htt xin0 hown hK hP 0 rfl rfl 5 (by decide) (htt _ tw_236) (fun _ h9 => h9) rfl d_Control_faultReason_51 ?_
        have hPc := hP.sub (ws' := [(A 18, xc18 Z A M)]) [6] rfl
        have hDc := hD.sub (ws' := [(A 18, xc18 Z A M)]) [6] (by decide) rfl
        refine xk_p (va_runV (As := []) (rest := []) ⟨hx, hb, hml, hown, hts⟩ (c_Watch_shakesTooLong l dC dI Z A _ M) (cwV 0 hts (xw_V _ tw_648 tw_649 tw_650 tw_10 tw_651) rfl rfl rfl (by decide +kernel) ⟨Nat.le_of_ble_eq_true rfl, Nat.le_of_ble_eq_true rfl⟩) ⟨xB_blind, va_recv (q0 := 6) (ci := 8) hK hP rfl rfl, fun U hU hW => ⟨rfl, xB_at hPc hK hDc hq U hU hW⟩⟩ rfl rfl hl.1 rfl (lv_room (Nat.le_of_ble_eq_true rfl)) d_Control_faultReason_54 ⟨Nat.le_of_ble_eq_true rfl, Nat.le_of_ble_eq_true rfl⟩) ?_
        refine lv_topi (fun z8 hz8 => ?_)
        refine lv_if_eq (tgt := 62) hx hb d_Control_faultReason_57 rfl (fun h10 => ?_) (fun h10 => ?_)
        · refine lv_aload_n hx hb d_Control_faultReason_62 rfl (lv_at hl 0 rfl) ?_
          refine va_get (D := (dC, dI)) (ci := 0) (v := .ref (A 18)) (C := "CentrifugeUnit$Control") (T := xF0) (N := 14) hx hb htt xin0 hown hK hP 0 rfl rfl 5 (by decide) (htt _ tw_236) (fun _ h9 => h9) rfl d_Control_faultReason_63 ?_
          have hPc := hP.sub (ws' := [(A 18, xc18 Z A M)]) [6] rfl
          have hDc := hD.sub (ws' := [(A 18, xc18 Z A M)]) [6] (by decide) rfl
          refine xk_p (va_runV (As := []) (rest := []) ⟨hx, hb, hml, hown, hts⟩ (c_Watch_differsTooLong l dC dI Z A _ M) (cwV 0 hts (xw_V _ tw_652 tw_653 tw_654 tw_10 tw_655) rfl rfl rfl (by decide +kernel) ⟨Nat.le_of_ble_eq_true rfl, Nat.le_of_ble_eq_true rfl⟩) ⟨xB_blind, va_recv (q0 := 6) (ci := 8) hK hP rfl rfl, fun U hU hW => ⟨rfl, xB_at hPc hK hDc hq U hU hW⟩⟩ rfl rfl hl.1 rfl (lv_room (Nat.le_of_ble_eq_true rfl)) d_Control_faultReason_66 ⟨Nat.le_of_ble_eq_true rfl, Nat.le_of_ble_eq_true rfl⟩) ?_
          refine lv_topi (fun z11 hz11 => ?_)
          refine lv_if_eq (tgt := 76) hx hb d_Control_faultReason_69 rfl (fun h13 => ?_) (fun h13 => ?_)
          · refine lv_iconst (v := 0) hx hb d_Control_faultReason_76 (by decide) ?_
            exact W.iret hx hb hr (fun t ht hW => ⟨(by rw [F_Control_faultReason, ← hz1, F_Control_faultReason_k2, if_neg h3, if_pos h4, ← hz5, F_Control_faultReason_k6, if_pos h7, ← hz8, F_Control_faultReason_k9, if_pos h10, ← hz11, F_Control_faultReason_k12, if_pos h13]), ht⟩) (fun _ h => absurd h List.not_mem_nil) d_Control_faultReason_77
          · refine lv_iconst (v := 5) hx hb d_Control_faultReason_72 (by decide) ?_
            refine lv_goto (tgt := 77) hx hb d_Control_faultReason_73 rfl ?_
            exact W.iret hx hb hr (fun t ht hW => ⟨(by rw [F_Control_faultReason, ← hz1, F_Control_faultReason_k2, if_neg h3, if_pos h4, ← hz5, F_Control_faultReason_k6, if_pos h7, ← hz8, F_Control_faultReason_k9, if_pos h10, ← hz11, F_Control_faultReason_k12, if_neg h13]), ht⟩) (fun _ h => absurd h List.not_mem_nil) d_Control_faultReason_77
        · refine lv_iconst (v := 4) hx hb d_Control_faultReason_60 (by decide) ?_
          exact W.iret hx hb hr (fun t ht hW => ⟨(by rw [F_Control_faultReason, ← hz1, F_Control_faultReason_k2, if_neg h3, if_pos h4, ← hz5, F_Control_faultReason_k6, if_pos h7, ← hz8, F_Control_faultReason_k9, if_neg h10]), ht⟩) (fun _ h => absurd h List.not_mem_nil) d_Control_faultReason_61
      · refine lv_iconst (v := 3) hx hb d_Control_faultReason_48 (by decide) ?_
        exact W.iret hx hb hr (fun t ht hW => ⟨(by rw [F_Control_faultReason, ← hz1, F_Control_faultReason_k2, if_neg h3, if_pos h4, ← hz5, F_Control_faultReason_k6, if_neg h7]), ht⟩) (fun _ h => absurd h List.not_mem_nil) d_Control_faultReason_49
    · refine lv_iconst (v := 2) hx hb d_Control_faultReason_22 (by decide) ?_
      exact W.iret hx hb hr (fun t ht hW => ⟨(by rw [F_Control_faultReason, ← hz1, F_Control_faultReason_k2, if_neg h3, if_neg h4]), ht⟩) (fun _ h => absurd h List.not_mem_nil) d_Control_faultReason_23
  · refine lv_iconst (v := 1) hx hb d_Control_faultReason_10 (by decide) ?_
    exact W.iret hx hb hr (fun t ht hW => ⟨(by rw [F_Control_faultReason, ← hz1, F_Control_faultReason_k2, if_pos h3]), ht⟩) (fun _ h => absurd h List.not_mem_nil) d_Control_faultReason_11
abbrev bc_Control_lookForFault : ByteArray := prog_2_method_10_code
def y_Control_lookForFault : MethodName := ⟨"CentrifugeUnit$Control", "lookForFault", "()V"⟩
theorem d_Control_lookForFault_0 : decode bc_Control_lookForFault 0 = .ok (.aload_n 0, 1) := by decide +kernel
theorem d_Control_lookForFault_1 : decode bc_Control_lookForFault 1 = .ok (.invokevirtual 112, 3) := by decide +kernel
theorem d_Control_lookForFault_4 : decode bc_Control_lookForFault 4 = .ok (.ifCond .ne 4, 3) := by decide +kernel
theorem d_Control_lookForFault_7 : decode bc_Control_lookForFault 7 = .ok (.return_, 1) := by decide +kernel
theorem d_Control_lookForFault_8 : decode bc_Control_lookForFault 8 = .ok (.aload_n 0, 1) := by decide +kernel
theorem d_Control_lookForFault_9 : decode bc_Control_lookForFault 9 = .ok (.invokevirtual 130, 3) := by decide +kernel
theorem d_Control_lookForFault_12 : decode bc_Control_lookForFault 12 = .ok (.istore_n 1, 1) := by decide +kernel
theorem d_Control_lookForFault_13 : decode bc_Control_lookForFault 13 = .ok (.iload_n 1, 1) := by decide +kernel
theorem d_Control_lookForFault_14 : decode bc_Control_lookForFault 14 = .ok (.ifCond .eq 13, 3) := by decide +kernel
theorem d_Control_lookForFault_17 : decode bc_Control_lookForFault 17 = .ok (.aload_n 0, 1) := by decide +kernel
theorem d_Control_lookForFault_18 : decode bc_Control_lookForFault 18 = .ok (.iconst 3, 1) := by decide +kernel
theorem d_Control_lookForFault_19 : decode bc_Control_lookForFault 19 = .ok (.putfield 33, 3) := by decide +kernel
theorem d_Control_lookForFault_22 : decode bc_Control_lookForFault 22 = .ok (.aload_n 0, 1) := by decide +kernel
theorem d_Control_lookForFault_23 : decode bc_Control_lookForFault 23 = .ok (.iload_n 1, 1) := by decide +kernel
theorem d_Control_lookForFault_24 : decode bc_Control_lookForFault 24 = .ok (.putfield 36, 3) := by decide +kernel
theorem d_Control_lookForFault_27 : decode bc_Control_lookForFault 27 = .ok (.return_, 1) := by decide +kernel
abbrev ap_Control_lookForFault (M : XM) (u : (Int32 × Int32)) : XM := ((va_up (va_up M.1 14 (u.1)) 15 (u.2)), M.2)
def F_Control_lookForFault_k5 (M : XM) (z1 : Int32) (z4 : Int32) : (Int32 × Int32) := (if z4 = 0 then ((M.1 14), (M.1 15)) else (3, z4))
def F_Control_lookForFault_k2 (M : XM) (z1 : Int32) : (Int32 × Int32) := (if z1 = 0 then ((M.1 14), (M.1 15)) else (F_Control_lookForFault_k5 M z1 (F_Control_faultReason M)))
def F_Control_lookForFault (M : XM) : (Int32 × Int32) := (F_Control_lookForFault_k2 M (F_Control_turning M))
set_option maxHeartbeats 4000000 in
set_option maxRecDepth 100000 in
theorem c_Control_lookForFault (l : Launch) (dC : Nat → ClassId) (dI : Nat → Nat → Nat) (Z : Nat → ClassId) (A : Nat → Nat) (sz : Nat) (M : XM) : Met l y_Control_lookForFault (.code y_Control_lookForFault bc_Control_lookForFault 2 none :: xw) ({ frames := 4, cells := 0, slots := 0, locals := 83 }) (va_Pc [.ref (A 17)] (xB (dC, dI) xcl (xty Z) sz [(A 17, xc17 Z A M), (A 12, xc12 Z A M), (A 19, xc19 Z A M), (A 11, xc11 Z A M), (A 1, xc1 Z A M), (A 4, xc4 Z A M), (A 18, xc18 Z A M)])) (va_Qv (fun u : (Int32 × Int32) => u = F_Control_lookForFault M) (fun u => xE (dC, dI) xcl (xty Z) (va_A [(A 17, xc17 Z A M), (A 12, xc12 Z A M), (A 19, xc19 Z A M), (A 11, xc11 Z A M), (A 1, xc1 Z A M), (A 4, xc4 Z A M), (A 18, xc18 Z A M)] sz) [(A 17, xc17 Z A (ap_Control_lookForFault M u)), (A 12, xc12 Z A (ap_Control_lookForFault M u)), (A 19, xc19 Z A (ap_Control_lookForFault M u)), (A 11, xc11 Z A (ap_Control_lookForFault M u)), (A 1, xc1 Z A (ap_Control_lookForFault M u)), (A 4, xc4 Z A (ap_Control_lookForFault M u)), (A 18, xc18 Z A (ap_Control_lookForFault M u))]) (va_A [(A 17, xc17 Z A M), (A 12, xc12 Z A M), (A 19, xc19 Z A M), (A 11, xc11 Z A M), (A 1, xc1 Z A M), (A 4, xc4 Z A M), (A 18, xc18 Z A M)] sz)) 0 0 (va_A [(A 17, xc17 Z A M), (A 12, xc12 Z A M), (A 19, xc19 Z A M), (A 11, xc11 Z A M), (A 1, xc1 Z A M), (A 4, xc4 Z A M), (A 18, xc18 Z A M)] sz) := by
  refine Met.ofW (cc := bc_Control_lookForFault) (maxL := 2) (ret := none) (by decide) rfl ?_
  intro p e s m args below meth c s₁ B hml hv
  obtain ⟨rfl, hsz, hP, hK, hD0, hq⟩ := hv
  have hx := B.exec
  have hb := B.bytes
  have hr := B.returns
  have hts := atoms_spec (ws := (.code y_Control_lookForFault bc_Control_lookForFault 2 none :: xw)) B.pre
  have htt : ∀ w ∈ xw, w.before _ s = true := fun w h => hts w (List.mem_cons_of_mem _ h)
  have hown : s.vm.findClass "CentrifugeUnit$Control" = some m.cls := findClass_of_methodNamed B.named
  have hlocks := B.notSynchronized
  subst hsz
  have hD := hD0.self (sz := s.heap.size)
  generalize hAe : va_A [(A 17, xc17 Z A M), (A 12, xc12 Z A M), (A 19, xc19 Z A M), (A 11, xc11 Z A M), (A 1, xc1 Z A M), (A 4, xc4 Z A M), (A 18, xc18 Z A M)] s.heap.size = AA at hD ⊢
  have hA : ∀ q : Nat, s.heap.size ≤ q → AA q := fun q h => by rw [← hAe]; exact Or.inr h
  have hS : va_S AA s.heap s.heap [] := va_S.rf
  have hP : va_P (dC, dI) xcl [(A 17, .inr (0, [.ref (A 1), .ref (A 6), .ref (A 11), .ref (A 12), .ref (A 13), .ref (A 18), .ref (A 19), .int (M.1 12), .int (M.1 13), .int (M.1 14), .int (M.1 15), .int (M.1 16), .int (M.1 17), .int (M.1 18)])), (A 12, .inr (1, [.int (M.1 8), .int (M.1 9), .int (M.1 10)])), (A 19, .inr (6, [.long (M.2.1 1), .long (M.2.1 2), .int (M.1 23), .int (M.1 24), .int (M.1 25), .int (M.1 26), .int (M.1 27), .int (M.1 28)])), (A 11, .inr (7, [.int (M.1 2), .int (M.1 3), .int (M.1 4), .int (M.1 5), .int (M.1 6), .int (M.1 7)])), (A 1, .inr (5, [.ref (A 2), .ref (A 3), .ref (A 4), .ref (A 5), .int (M.1 0)])), (A 4, .inl (Z 0, 4, .inl (M.2.2.1 4))), (A 18, .inr (8, [.int (M.1 19), .int (M.1 20), .int (M.1 21), .int (M.1 22)]))] s.heap := hP
  have hD : va_D AA [(A 17, .inr (0, [.ref (A 1), .ref (A 6), .ref (A 11), .ref (A 12), .ref (A 13), .ref (A 18), .ref (A 19), .int (M.1 12), .int (M.1 13), .int (M.1 14), .int (M.1 15), .int (M.1 16), .int (M.1 17), .int (M.1 18)])), (A 12, .inr (1, [.int (M.1 8), .int (M.1 9), .int (M.1 10)])), (A 19, .inr (6, [.long (M.2.1 1), .long (M.2.1 2), .int (M.1 23), .int (M.1 24), .int (M.1 25), .int (M.1 26), .int (M.1 27), .int (M.1 28)])), (A 11, .inr (7, [.int (M.1 2), .int (M.1 3), .int (M.1 4), .int (M.1 5), .int (M.1 6), .int (M.1 7)])), (A 1, .inr (5, [.ref (A 2), .ref (A 3), .ref (A 4), .ref (A 5), .int (M.1 0)])), (A 4, .inl (Z 0, 4, .inl (M.2.2.1 4))), (A 18, .inr (8, [.int (M.1 19), .int (M.1 20), .int (M.1 21), .int (M.1 22)]))] := hD
  have hl := lv_entry ([.ref (A 17)]) (n := 2) (Nat.le_of_ble_eq_true rfl)
  rw [lg_entry_eq]
  generalize (lg_sl ([.ref (A 17)]) ++ List.replicate (2 - (lg_sl ([.ref (A 17)])).length) Slot.unset).toArray = ls at hl ⊢
  have hl : lv_has ls 2 [(0, .ref (A 17))] := hl
  refine lv_aload_n hx hb d_Control_lookForFault_0 rfl (lv_at hl 0 rfl) ?_
  have hPc := hP.sub (ws' := [(A 17, xc17 Z A M)]) [0] rfl
  have hDc := hD.sub (ws' := [(A 17, xc17 Z A M)]) [0] (by decide) rfl
  refine xk_p (va_runV (As := []) (rest := []) ⟨hx, hb, hml, hown, hts⟩ (c_Control_turning l dC dI Z A _ M) (cwV 0 hts (xw_V _ tw_620 tw_622 tp_2 tw_9 tw_623) rfl rfl rfl (by decide +kernel) ⟨Nat.le_of_ble_eq_true rfl, Nat.le_of_ble_eq_true rfl⟩) ⟨xB_blind, va_recv (q0 := 0) (ci := 0) hK hP rfl rfl, fun U hU hW => ⟨rfl, xB_at hPc hK hDc hq U hU hW⟩⟩ rfl rfl hl.1 rfl (lv_room (Nat.le_of_ble_eq_true rfl)) d_Control_lookForFault_1 ⟨Nat.le_of_ble_eq_true rfl, Nat.le_of_ble_eq_true rfl⟩) ?_
  refine lv_topi (fun z1 hz1 => ?_)
  refine lv_if_ne (tgt := 8) hx hb d_Control_lookForFault_4 rfl (fun h3 => ?_) (fun h3 => ?_)
  · refine lv_aload_n hx hb d_Control_lookForFault_8 rfl (lv_at hl 0 rfl) ?_
    have hPc := hP.sub (ws' := [(A 17, xc17 Z A M), (A 12, xc12 Z A M), (A 19, xc19 Z A M), (A 11, xc11 Z A M), (A 1, xc1 Z A M), (A 4, xc4 Z A M), (A 18, xc18 Z A M)]) [0, 1, 2, 3, 4, 5, 6] rfl
    have hDc := hD.sub (ws' := [(A 17, xc17 Z A M), (A 12, xc12 Z A M), (A 19, xc19 Z A M), (A 11, xc11 Z A M), (A 1, xc1 Z A M), (A 4, xc4 Z A M), (A 18, xc18 Z A M)]) [0, 1, 2, 3, 4, 5, 6] (by decide) rfl
    refine xk_p (va_runV (As := []) (rest := []) ⟨hx, hb, hml, hown, hts⟩ (c_Control_faultReason l dC dI Z A _ M) (cwV 0 hts (xw_V _ tw_639 tw_641 tp_4 tw_9 tw_642) rfl rfl rfl (by decide +kernel) ⟨Nat.le_of_ble_eq_true rfl, Nat.le_of_ble_eq_true rfl⟩) ⟨xB_blind, va_recv (q0 := 0) (ci := 0) hK hP rfl rfl, fun U hU hW => ⟨rfl, xB_at hPc hK hDc hq U hU hW⟩⟩ rfl rfl hl.1 rfl (lv_room (Nat.le_of_ble_eq_true rfl)) d_Control_lookForFault_9 ⟨Nat.le_of_ble_eq_true rfl, Nat.le_of_ble_eq_true rfl⟩) ?_
    refine lv_topi (fun z4 hz4 => ?_)
    refine lv_istore_n (lv' := [(1, .int z4), (0, .ref (A 17))]) hx hb d_Control_lookForFault_12 rfl hl (by decide) rfl (fun ls hl => ?_)
    refine lv_iload_n hx hb d_Control_lookForFault_13 rfl (lv_at hl 0 rfl) ?_
    refine lv_if_eq (tgt := 27) hx hb d_Control_lookForFault_14 rfl (fun h6 => ?_) (fun h6 => ?_)
    · have hP9 := hP.sub (ws' := [(A 17, xc17 Z A (ap_Control_lookForFault M ((M.1 14), (M.1 15)))), (A 12, xc12 Z A (ap_Control_lookForFault M ((M.1 14), (M.1 15)))), (A 19, xc19 Z A (ap_Control_lookForFault M ((M.1 14), (M.1 15)))), (A 11, xc11 Z A (ap_Control_lookForFault M ((M.1 14), (M.1 15)))), (A 1, xc1 Z A (ap_Control_lookForFault M ((M.1 14), (M.1 15)))), (A 4, xc4 Z A (ap_Control_lookForFault M ((M.1 14), (M.1 15)))), (A 18, xc18 Z A (ap_Control_lookForFault M ((M.1 14), (M.1 15))))]) [0, 1, 2, 3, 4, 5, 6] rfl
      have hD9 := hD.sub (ws' := [(A 17, xc17 Z A (ap_Control_lookForFault M ((M.1 14), (M.1 15)))), (A 12, xc12 Z A (ap_Control_lookForFault M ((M.1 14), (M.1 15)))), (A 19, xc19 Z A (ap_Control_lookForFault M ((M.1 14), (M.1 15)))), (A 11, xc11 Z A (ap_Control_lookForFault M ((M.1 14), (M.1 15)))), (A 1, xc1 Z A (ap_Control_lookForFault M ((M.1 14), (M.1 15)))), (A 4, xc4 Z A (ap_Control_lookForFault M ((M.1 14), (M.1 15)))), (A 18, xc18 Z A (ap_Control_lookForFault M ((M.1 14), (M.1 15))))]) [0, 1, 2, 3, 4, 5, 6] (by decide) rfl
      exact W.vret hx hb hr (fun t ht hW => ⟨⟨((M.1 14), (M.1 15)), rfl, (by rw [F_Control_lookForFault, ← hz1, F_Control_lookForFault_k2, if_neg h3, ← hz4, F_Control_lookForFault_k5, if_pos h6]), xE_at hP9 hK hD9 ht hW⟩, hS.F ht⟩) hS.2.2 d_Control_lookForFault_27
    · refine lv_aload_n hx hb d_Control_lookForFault_17 rfl (lv_at hl 1 rfl) ?_
      refine lv_iconst (v := 3) hx hb d_Control_lookForFault_18 (by decide) ?_
      refine va_put (D := (dC, dI)) (ci := 0) (v := .int 3) (ty := .int) (C := "CentrifugeUnit$Control") (T := xF0) (N := 14) hx hb htt xin0 xT0 xTo0 xNm0 hown hK hP hD hS 0 rfl rfl 9 (by decide) (htt _ tw_244) (fun _ h9 => h9) rfl (by decide +kernel) rfl rfl (Nat.le_of_ble_eq_true rfl) d_Control_lookForFault_19 (fun H locs hP hD hS => ?_)
      have hP : va_P (dC, dI) xcl [(A 17, .inr (0, [.ref (A 1), .ref (A 6), .ref (A 11), .ref (A 12), .ref (A 13), .ref (A 18), .ref (A 19), .int (M.1 12), .int (M.1 13), .int 3, .int (M.1 15), .int (M.1 16), .int (M.1 17), .int (M.1 18)])), (A 12, .inr (1, [.int (M.1 8), .int (M.1 9), .int (M.1 10)])), (A 19, .inr (6, [.long (M.2.1 1), .long (M.2.1 2), .int (M.1 23), .int (M.1 24), .int (M.1 25), .int (M.1 26), .int (M.1 27), .int (M.1 28)])), (A 11, .inr (7, [.int (M.1 2), .int (M.1 3), .int (M.1 4), .int (M.1 5), .int (M.1 6), .int (M.1 7)])), (A 1, .inr (5, [.ref (A 2), .ref (A 3), .ref (A 4), .ref (A 5), .int (M.1 0)])), (A 4, .inl (Z 0, 4, .inl (M.2.2.1 4))), (A 18, .inr (8, [.int (M.1 19), .int (M.1 20), .int (M.1 21), .int (M.1 22)]))] H := hP
      have hD : va_D AA [(A 17, .inr (0, [.ref (A 1), .ref (A 6), .ref (A 11), .ref (A 12), .ref (A 13), .ref (A 18), .ref (A 19), .int (M.1 12), .int (M.1 13), .int 3, .int (M.1 15), .int (M.1 16), .int (M.1 17), .int (M.1 18)])), (A 12, .inr (1, [.int (M.1 8), .int (M.1 9), .int (M.1 10)])), (A 19, .inr (6, [.long (M.2.1 1), .long (M.2.1 2), .int (M.1 23), .int (M.1 24), .int (M.1 25), .int (M.1 26), .int (M.1 27), .int (M.1 28)])), (A 11, .inr (7, [.int (M.1 2), .int (M.1 3), .int (M.1 4), .int (M.1 5), .int (M.1 6), .int (M.1 7)])), (A 1, .inr (5, [.ref (A 2), .ref (A 3), .ref (A 4), .ref (A 5), .int (M.1 0)])), (A 4, .inl (Z 0, 4, .inl (M.2.2.1 4))), (A 18, .inr (8, [.int (M.1 19), .int (M.1 20), .int (M.1 21), .int (M.1 22)]))] := hD
      refine lv_aload_n hx hb d_Control_lookForFault_22 rfl (lv_at hl 1 rfl) ?_
      refine lv_iload_n hx hb d_Control_lookForFault_23 rfl (lv_at hl 0 rfl) ?_
      refine va_put (D := (dC, dI)) (ci := 0) (v := .int z4) (ty := .int) (C := "CentrifugeUnit$Control") (T := xF0) (N := 14) hx hb htt xin0 xT0 xTo0 xNm0 hown hK hP hD hS 0 rfl rfl 10 (by decide) (htt _ tw_246) (fun _ h9 => h9) rfl (by decide +kernel) rfl rfl (Nat.le_of_ble_eq_true rfl) d_Control_lookForFault_24 (fun H locs hP hD hS => ?_)
      have hP : va_P (dC, dI) xcl [(A 17, .inr (0, [.ref (A 1), .ref (A 6), .ref (A 11), .ref (A 12), .ref (A 13), .ref (A 18), .ref (A 19), .int (M.1 12), .int (M.1 13), .int 3, .int z4, .int (M.1 16), .int (M.1 17), .int (M.1 18)])), (A 12, .inr (1, [.int (M.1 8), .int (M.1 9), .int (M.1 10)])), (A 19, .inr (6, [.long (M.2.1 1), .long (M.2.1 2), .int (M.1 23), .int (M.1 24), .int (M.1 25), .int (M.1 26), .int (M.1 27), .int (M.1 28)])), (A 11, .inr (7, [.int (M.1 2), .int (M.1 3), .int (M.1 4), .int (M.1 5), .int (M.1 6), .int (M.1 7)])), (A 1, .inr (5, [.ref (A 2), .ref (A 3), .ref (A 4), .ref (A 5), .int (M.1 0)])), (A 4, .inl (Z 0, 4, .inl (M.2.2.1 4))), (A 18, .inr (8, [.int (M.1 19), .int (M.1 20), .int (M.1 21), .int (M.1 22)]))] H := hP
      have hD : va_D AA [(A 17, .inr (0, [.ref (A 1), .ref (A 6), .ref (A 11), .ref (A 12), .ref (A 13), .ref (A 18), .ref (A 19), .int (M.1 12), .int (M.1 13), .int 3, .int z4, .int (M.1 16), .int (M.1 17), .int (M.1 18)])), (A 12, .inr (1, [.int (M.1 8), .int (M.1 9), .int (M.1 10)])), (A 19, .inr (6, [.long (M.2.1 1), .long (M.2.1 2), .int (M.1 23), .int (M.1 24), .int (M.1 25), .int (M.1 26), .int (M.1 27), .int (M.1 28)])), (A 11, .inr (7, [.int (M.1 2), .int (M.1 3), .int (M.1 4), .int (M.1 5), .int (M.1 6), .int (M.1 7)])), (A 1, .inr (5, [.ref (A 2), .ref (A 3), .ref (A 4), .ref (A 5), .int (M.1 0)])), (A 4, .inl (Z 0, 4, .inl (M.2.2.1 4))), (A 18, .inr (8, [.int (M.1 19), .int (M.1 20), .int (M.1 21), .int (M.1 22)]))] := hD
      have hP9 := hP.sub (ws' := [(A 17, xc17 Z A (ap_Control_lookForFault M (3, z4))), (A 12, xc12 Z A (ap_Control_lookForFault M (3, z4))), (A 19, xc19 Z A (ap_Control_lookForFault M (3, z4))), (A 11, xc11 Z A (ap_Control_lookForFault M (3, z4))), (A 1, xc1 Z A (ap_Control_lookForFault M (3, z4))), (A 4, xc4 Z A (ap_Control_lookForFault M (3, z4))), (A 18, xc18 Z A (ap_Control_lookForFault M (3, z4)))]) [0, 1, 2, 3, 4, 5, 6] rfl
      have hD9 := hD.sub (ws' := [(A 17, xc17 Z A (ap_Control_lookForFault M (3, z4))), (A 12, xc12 Z A (ap_Control_lookForFault M (3, z4))), (A 19, xc19 Z A (ap_Control_lookForFault M (3, z4))), (A 11, xc11 Z A (ap_Control_lookForFault M (3, z4))), (A 1, xc1 Z A (ap_Control_lookForFault M (3, z4))), (A 4, xc4 Z A (ap_Control_lookForFault M (3, z4))), (A 18, xc18 Z A (ap_Control_lookForFault M (3, z4)))]) [0, 1, 2, 3, 4, 5, 6] (by decide) rfl
      exact W.vret hx hb hr (fun t ht hW => ⟨⟨(3, z4), rfl, (by rw [F_Control_lookForFault, ← hz1, F_Control_lookForFault_k2, if_neg h3, ← hz4, F_Control_lookForFault_k5, if_neg h6]), xE_at hP9 hK hD9 ht hW⟩, hS.F ht⟩) hS.2.2 d_Control_lookForFault_27
  · have hP9 := hP.sub (ws' := [(A 17, xc17 Z A (ap_Control_lookForFault M ((M.1 14), (M.1 15)))), (A 12, xc12 Z A (ap_Control_lookForFault M ((M.1 14), (M.1 15)))), (A 19, xc19 Z A (ap_Control_lookForFault M ((M.1 14), (M.1 15)))), (A 11, xc11 Z A (ap_Control_lookForFault M ((M.1 14), (M.1 15)))), (A 1, xc1 Z A (ap_Control_lookForFault M ((M.1 14), (M.1 15)))), (A 4, xc4 Z A (ap_Control_lookForFault M ((M.1 14), (M.1 15)))), (A 18, xc18 Z A (ap_Control_lookForFault M ((M.1 14), (M.1 15))))]) [0, 1, 2, 3, 4, 5, 6] rfl
    have hD9 := hD.sub (ws' := [(A 17, xc17 Z A (ap_Control_lookForFault M ((M.1 14), (M.1 15)))), (A 12, xc12 Z A (ap_Control_lookForFault M ((M.1 14), (M.1 15)))), (A 19, xc19 Z A (ap_Control_lookForFault M ((M.1 14), (M.1 15)))), (A 11, xc11 Z A (ap_Control_lookForFault M ((M.1 14), (M.1 15)))), (A 1, xc1 Z A (ap_Control_lookForFault M ((M.1 14), (M.1 15)))), (A 4, xc4 Z A (ap_Control_lookForFault M ((M.1 14), (M.1 15)))), (A 18, xc18 Z A (ap_Control_lookForFault M ((M.1 14), (M.1 15))))]) [0, 1, 2, 3, 4, 5, 6] (by decide) rfl
    exact W.vret hx hb hr (fun t ht hW => ⟨⟨((M.1 14), (M.1 15)), rfl, (by rw [F_Control_lookForFault, ← hz1, F_Control_lookForFault_k2, if_pos h3]), xE_at hP9 hK hD9 ht hW⟩, hS.F ht⟩) hS.2.2 d_Control_lookForFault_7
abbrev bc_Control_addDose : ByteArray := prog_2_method_12_code
def y_Control_addDose : MethodName := ⟨"CentrifugeUnit$Control", "addDose", "()V"⟩
theorem d_Control_addDose_0 : decode bc_Control_addDose 0 = .ok (.aload_n 0, 1) := by decide +kernel
theorem d_Control_addDose_1 : decode bc_Control_addDose 1 = .ok (.getfield 33, 3) := by decide +kernel
theorem d_Control_addDose_4 : decode bc_Control_addDose 4 = .ok (.iconst 1, 1) := by decide +kernel
theorem d_Control_addDose_5 : decode bc_Control_addDose 5 = .ok (.if_icmp .ne 43, 3) := by decide +kernel
theorem d_Control_addDose_8 : decode bc_Control_addDose 8 = .ok (.aload_n 0, 1) := by decide +kernel
theorem d_Control_addDose_9 : decode bc_Control_addDose 9 = .ok (.getfield 47, 3) := by decide +kernel
theorem d_Control_addDose_12 : decode bc_Control_addDose 12 = .ok (.getfield 155, 3) := by decide +kernel
theorem d_Control_addDose_15 : decode bc_Control_addDose 15 = .ok (.i2l, 1) := by decide +kernel
theorem d_Control_addDose_16 : decode bc_Control_addDose 16 = .ok (.lstore_n 1, 1) := by decide +kernel
theorem d_Control_addDose_17 : decode bc_Control_addDose 17 = .ok (.aload_n 0, 1) := by decide +kernel
theorem d_Control_addDose_18 : decode bc_Control_addDose 18 = .ok (.getfield 21, 3) := by decide +kernel
theorem d_Control_addDose_21 : decode bc_Control_addDose 21 = .ok (.dup, 1) := by decide +kernel
theorem d_Control_addDose_22 : decode bc_Control_addDose 22 = .ok (.getfield 158, 3) := by decide +kernel
theorem d_Control_addDose_25 : decode bc_Control_addDose 25 = .ok (.aload_n 0, 1) := by decide +kernel
theorem d_Control_addDose_26 : decode bc_Control_addDose 26 = .ok (.getfield 39, 3) := by decide +kernel
theorem d_Control_addDose_29 : decode bc_Control_addDose 29 = .ok (.aload_n 0, 1) := by decide +kernel
theorem d_Control_addDose_30 : decode bc_Control_addDose 30 = .ok (.getfield 21, 3) := by decide +kernel
theorem d_Control_addDose_33 : decode bc_Control_addDose 33 = .ok (.getfield 140, 3) := by decide +kernel
theorem d_Control_addDose_36 : decode bc_Control_addDose 36 = .ok (.invokevirtual 161, 3) := by decide +kernel
theorem d_Control_addDose_39 : decode bc_Control_addDose 39 = .ok (.i2l, 1) := by decide +kernel
theorem d_Control_addDose_40 : decode bc_Control_addDose 40 = .ok (.lload_n 1, 1) := by decide +kernel
theorem d_Control_addDose_41 : decode bc_Control_addDose 41 = .ok (.lmul, 1) := by decide +kernel
theorem d_Control_addDose_42 : decode bc_Control_addDose 42 = .ok (.lload_n 1, 1) := by decide +kernel
theorem d_Control_addDose_43 : decode bc_Control_addDose 43 = .ok (.lmul, 1) := by decide +kernel
theorem d_Control_addDose_44 : decode bc_Control_addDose 44 = .ok (.ladd, 1) := by decide +kernel
theorem d_Control_addDose_45 : decode bc_Control_addDose 45 = .ok (.putfield 158, 3) := by decide +kernel
theorem d_Control_addDose_48 : decode bc_Control_addDose 48 = .ok (.return_, 1) := by decide +kernel
abbrev ap_Control_addDose (M : XM) (u : Int64) : XM := (M.1, (va_up M.2.1 1 u), M.2.2)
def F_Control_addDose_k3 (M : XM) (z2 : Int32) : (Int64) := ((M.2.1 1) + (((z2).toInt64 * ((M.1 7)).toInt64) * ((M.1 7)).toInt64))
def F_Control_addDose (M : XM) : (Int64) := (if (M.1 14) = 1 then (F_Control_addDose_k3 M (F_Rotors_radiusOf M (M.1 23))) else (M.2.1 1))
set_option maxHeartbeats 4000000 in
set_option maxRecDepth 100000 in
theorem c_Control_addDose (l : Launch) (dC : Nat → ClassId) (dI : Nat → Nat → Nat) (Z : Nat → ClassId) (A : Nat → Nat) (sz : Nat) (M : XM) : Met l y_Control_addDose (.code y_Control_addDose bc_Control_addDose 3 none :: xw) ({ frames := 3, cells := 0, slots := 0, locals := 63 }) (va_Pc [.ref (A 17)] (xB (dC, dI) xcl (xty Z) sz [(A 17, xc17 Z A M), (A 11, xc11 Z A M), (A 19, xc19 Z A M), (A 1, xc1 Z A M), (A 3, xc3 Z A M)])) (va_Qv (fun u : Int64 => u = F_Control_addDose M) (fun u => xE (dC, dI) xcl (xty Z) (va_A [(A 17, xc17 Z A M), (A 11, xc11 Z A M), (A 19, xc19 Z A M), (A 1, xc1 Z A M), (A 3, xc3 Z A M)] sz) [(A 17, xc17 Z A (ap_Control_addDose M u)), (A 11, xc11 Z A (ap_Control_addDose M u)), (A 19, xc19 Z A (ap_Control_addDose M u)), (A 1, xc1 Z A (ap_Control_addDose M u)), (A 3, xc3 Z A (ap_Control_addDose M u))]) (va_A [(A 17, xc17 Z A M), (A 11, xc11 Z A M), (A 19, xc19 Z A M), (A 1, xc1 Z A M), (A 3, xc3 Z A M)] sz)) 0 0 (va_A [(A 17, xc17 Z A M), (A 11, xc11 Z A M), (A 19, xc19 Z A M), (A 1, xc1 Z A M), (A 3, xc3 Z A M)] sz) := by
  refine Met.ofW (cc := bc_Control_addDose) (maxL := 3) (ret := none) (by decide) rfl ?_
  intro p e s m args below meth c s₁ B hml hv
  obtain ⟨rfl, hsz, hP, hK, hD0, hq⟩ := hv
  have hx := B.exec
  have hb := B.bytes
  have hr := B.returns
  have hts := atoms_spec (ws := (.code y_Control_addDose bc_Control_addDose 3 none :: xw)) B.pre
  have htt : ∀ w ∈ xw, w.before _ s = true := fun w h => hts w (List.mem_cons_of_mem _ h)
  have hown : s.vm.findClass "CentrifugeUnit$Control" = some m.cls := findClass_of_methodNamed B.named
  have hlocks := B.notSynchronized
  subst hsz
  have hD := hD0.self (sz := s.heap.size)
  generalize hAe : va_A [(A 17, xc17 Z A M), (A 11, xc11 Z A M), (A 19, xc19 Z A M), (A 1, xc1 Z A M), (A 3, xc3 Z A M)] s.heap.size = AA at hD ⊢
  have hA : ∀ q : Nat, s.heap.size ≤ q → AA q := fun q h => by rw [← hAe]; exact Or.inr h
  have hS : va_S AA s.heap s.heap [] := va_S.rf
  have hP : va_P (dC, dI) xcl [(A 17, .inr (0, [.ref (A 1), .ref (A 6), .ref (A 11), .ref (A 12), .ref (A 13), .ref (A 18), .ref (A 19), .int (M.1 12), .int (M.1 13), .int (M.1 14), .int (M.1 15), .int (M.1 16), .int (M.1 17), .int (M.1 18)])), (A 11, .inr (7, [.int (M.1 2), .int (M.1 3), .int (M.1 4), .int (M.1 5), .int (M.1 6), .int (M.1 7)])), (A 19, .inr (6, [.long (M.2.1 1), .long (M.2.1 2), .int (M.1 23), .int (M.1 24), .int (M.1 25), .int (M.1 26), .int (M.1 27), .int (M.1 28)])), (A 1, .inr (5, [.ref (A 2), .ref (A 3), .ref (A 4), .ref (A 5), .int (M.1 0)])), (A 3, .inl (Z 0, 4, .inl (M.2.2.1 3)))] s.heap := hP
  have hD : va_D AA [(A 17, .inr (0, [.ref (A 1), .ref (A 6), .ref (A 11), .ref (A 12), .ref (A 13), .ref (A 18), .ref (A 19), .int (M.1 12), .int (M.1 13), .int (M.1 14), .int (M.1 15), .int (M.1 16), .int (M.1 17), .int (M.1 18)])), (A 11, .inr (7, [.int (M.1 2), .int (M.1 3), .int (M.1 4), .int (M.1 5), .int (M.1 6), .int (M.1 7)])), (A 19, .inr (6, [.long (M.2.1 1), .long (M.2.1 2), .int (M.1 23), .int (M.1 24), .int (M.1 25), .int (M.1 26), .int (M.1 27), .int (M.1 28)])), (A 1, .inr (5, [.ref (A 2), .ref (A 3), .ref (A 4), .ref (A 5), .int (M.1 0)])), (A 3, .inl (Z 0, 4, .inl (M.2.2.1 3)))] := hD
  have hl := lv_entry ([.ref (A 17)]) (n := 3) (Nat.le_of_ble_eq_true rfl)
  rw [lg_entry_eq]
  generalize (lg_sl ([.ref (A 17)]) ++ List.replicate (3 - (lg_sl ([.ref (A 17)])).length) Slot.unset).toArray = ls at hl ⊢
  have hl : lv_has ls 3 [(0, .ref (A 17))] := hl
  refine lv_aload_n hx hb d_Control_addDose_0 rfl (lv_at hl 0 rfl) ?_
  refine va_get (D := (dC, dI)) (ci := 0) (v := .int (M.1 14)) (C := "CentrifugeUnit$Control") (T := xF0) (N := 14) hx hb htt xin0 hown hK hP 0 rfl rfl 9 (by decide) (htt _ tw_244) (fun _ h9 => h9) rfl d_Control_addDose_1 ?_
  refine lv_iconst (v := 1) hx hb d_Control_addDose_4 (by decide) ?_
  refine lv_icmp_ne (tgt := 48) hx hb d_Control_addDose_5 rfl (fun h1 => ?_) (fun h1 => ?_)
  · have hP9 := hP.sub (ws' := [(A 17, xc17 Z A (ap_Control_addDose M (M.2.1 1))), (A 11, xc11 Z A (ap_Control_addDose M (M.2.1 1))), (A 19, xc19 Z A (ap_Control_addDose M (M.2.1 1))), (A 1, xc1 Z A (ap_Control_addDose M (M.2.1 1))), (A 3, xc3 Z A (ap_Control_addDose M (M.2.1 1)))]) [0, 1, 2, 3, 4] rfl
    have hD9 := hD.sub (ws' := [(A 17, xc17 Z A (ap_Control_addDose M (M.2.1 1))), (A 11, xc11 Z A (ap_Control_addDose M (M.2.1 1))), (A 19, xc19 Z A (ap_Control_addDose M (M.2.1 1))), (A 1, xc1 Z A (ap_Control_addDose M (M.2.1 1))), (A 3, xc3 Z A (ap_Control_addDose M (M.2.1 1)))]) [0, 1, 2, 3, 4] (by decide) rfl
    exact W.vret hx hb hr (fun t ht hW => ⟨⟨(M.2.1 1), rfl, (by rw [F_Control_addDose, if_neg h1]), xE_at hP9 hK hD9 ht hW⟩, hS.F ht⟩) hS.2.2 d_Control_addDose_48
  · refine lv_aload_n hx hb d_Control_addDose_8 rfl (lv_at hl 0 rfl) ?_
    refine va_get (D := (dC, dI)) (ci := 0) (v := .ref (A 11)) (C := "CentrifugeUnit$Control") (T := xF0) (N := 14) hx hb htt xin0 hown hK hP 0 rfl rfl 2 (by decide) (htt _ tw_233) (fun _ h9 => h9) rfl d_Control_addDose_9 ?_
    refine va_get (D := (dC, dI)) (ci := 7) (v := .int (M.1 7)) (C := "CentrifugeUnit$Sensors") (T := xF7) (N := 6) hx hb htt xin7 hown hK hP 1 rfl rfl 5 (by decide) (htt _ tw_109) (fun _ h9 => h9) rfl d_Control_addDose_12 ?_
    refine lv_i2l (v := ((M.1 7)).toInt64) hx hb d_Control_addDose_15 rfl ?_
    refine lv_lstore_n (lv' := [(1, .long ((M.1 7)).toInt64), (0, .ref (A 17))]) hx hb d_Control_addDose_16 rfl hl (by decide) rfl (fun ls hl => ?_)
    refine lv_aload_n hx hb d_Control_addDose_17 rfl (lv_at hl 1 rfl) ?_
    refine va_get (D := (dC, dI)) (ci := 0) (v := .ref (A 19)) (C := "CentrifugeUnit$Control") (T := xF0) (N := 14) hx hb htt xin0 hown hK hP 0 rfl rfl 6 (by decide) (htt _ tw_238) (fun _ h9 => h9) rfl d_Control_addDose_18 ?_
    refine lv_dup hx hb d_Control_addDose_21 rfl ?_
    refine va_get (D := (dC, dI)) (ci := 6) (v := .long (M.2.1 1)) (C := "CentrifugeUnit$Run") (T := xF6) (N := 8) hx hb htt xin6 hown hK hP 2 rfl rfl 0 (by decide) (htt _ tw_195) (fun _ h9 => h9) rfl d_Control_addDose_22 ?_
    refine lv_aload_n hx hb d_Control_addDose_25 rfl (lv_at hl 1 rfl) ?_
    refine va_get (D := (dC, dI)) (ci := 0) (v := .ref (A 1)) (C := "CentrifugeUnit$Control") (T := xF0) (N := 14) hx hb htt xin0 hown hK hP 0 rfl rfl 0 (by decide) (htt _ tw_231) (fun _ h9 => h9) rfl d_Control_addDose_26 ?_
    refine lv_aload_n hx hb d_Control_addDose_29 rfl (lv_at hl 1 rfl) ?_
    refine va_get (D := (dC, dI)) (ci := 0) (v := .ref (A 19)) (C := "CentrifugeUnit$Control") (T := xF0) (N := 14) hx hb htt xin0 hown hK hP 0 rfl rfl 6 (by decide) (htt _ tw_238) (fun _ h9 => h9) rfl d_Control_addDose_30 ?_
    refine va_get (D := (dC, dI)) (ci := 6) (v := .int (M.1 23)) (C := "CentrifugeUnit$Run") (T := xF6) (N := 8) hx hb htt xin6 hown hK hP 2 rfl rfl 2 (by decide) (htt _ tw_200) (fun _ h9 => h9) rfl d_Control_addDose_33 ?_
    have hPc := hP.sub (ws' := [(A 1, xc1 Z A M), (A 3, xc3 Z A M)]) [3, 4] rfl
    have hDc := hD.sub (ws' := [(A 1, xc1 Z A M), (A 3, xc3 Z A M)]) [3, 4] (by decide) rfl
    refine xk_p (va_runV (As := [.int (M.1 23)]) (rest := [.long (M.2.1 1), .ref (A 19)]) ⟨hx, hb, hml, hown, hts⟩ (c_Rotors_radiusOf l dC dI Z A _ M (M.1 23)) (cwV 1 hts (xw_V _ tw_660 tw_319 tw_320 tw_2 tw_321) rfl rfl rfl (by decide +kernel) ⟨Nat.le_of_ble_eq_true rfl, Nat.le_of_ble_eq_true rfl⟩) ⟨xB_blind, va_recv (q0 := 3) (ci := 5) hK hP rfl rfl, fun U hU hW => ⟨rfl, xB_at hPc hK hDc hq U hU hW⟩⟩ rfl rfl hl.1 rfl (lv_room (Nat.le_of_ble_eq_true rfl)) d_Control_addDose_36 ⟨Nat.le_of_ble_eq_true rfl, Nat.le_of_ble_eq_true rfl⟩) ?_
    refine lv_topi (fun z2 hz2 => ?_)
    refine lv_i2l (v := (z2).toInt64) hx hb d_Control_addDose_39 rfl ?_
    refine lv_lload_n hx hb d_Control_addDose_40 rfl (lv_at hl 0 rfl) ?_
    refine lv_lmul hx hb d_Control_addDose_41 ?_
    refine lv_lload_n hx hb d_Control_addDose_42 rfl (lv_at hl 0 rfl) ?_
    refine lv_lmul hx hb d_Control_addDose_43 ?_
    refine lv_ladd hx hb d_Control_addDose_44 ?_
    refine va_put (D := (dC, dI)) (ci := 6) (v := .long ((M.2.1 1) + (((z2).toInt64 * ((M.1 7)).toInt64) * ((M.1 7)).toInt64))) (ty := .long) (C := "CentrifugeUnit$Run") (T := xF6) (N := 8) hx hb htt xin6 xT6 xTo6 xNm6 hown hK hP hD hS 2 rfl rfl 0 (by decide) (htt _ tw_195) (fun _ h9 => h9) rfl (by decide +kernel) rfl rfl (Nat.le_of_ble_eq_true rfl) d_Control_addDose_45 (fun H locs hP hD hS => ?_)
    have hP : va_P (dC, dI) xcl [(A 17, .inr (0, [.ref (A 1), .ref (A 6), .ref (A 11), .ref (A 12), .ref (A 13), .ref (A 18), .ref (A 19), .int (M.1 12), .int (M.1 13), .int (M.1 14), .int (M.1 15), .int (M.1 16), .int (M.1 17), .int (M.1 18)])), (A 11, .inr (7, [.int (M.1 2), .int (M.1 3), .int (M.1 4), .int (M.1 5), .int (M.1 6), .int (M.1 7)])), (A 19, .inr (6, [.long ((M.2.1 1) + (((z2).toInt64 * ((M.1 7)).toInt64) * ((M.1 7)).toInt64)), .long (M.2.1 2), .int (M.1 23), .int (M.1 24), .int (M.1 25), .int (M.1 26), .int (M.1 27), .int (M.1 28)])), (A 1, .inr (5, [.ref (A 2), .ref (A 3), .ref (A 4), .ref (A 5), .int (M.1 0)])), (A 3, .inl (Z 0, 4, .inl (M.2.2.1 3)))] H := hP
    have hD : va_D AA [(A 17, .inr (0, [.ref (A 1), .ref (A 6), .ref (A 11), .ref (A 12), .ref (A 13), .ref (A 18), .ref (A 19), .int (M.1 12), .int (M.1 13), .int (M.1 14), .int (M.1 15), .int (M.1 16), .int (M.1 17), .int (M.1 18)])), (A 11, .inr (7, [.int (M.1 2), .int (M.1 3), .int (M.1 4), .int (M.1 5), .int (M.1 6), .int (M.1 7)])), (A 19, .inr (6, [.long ((M.2.1 1) + (((z2).toInt64 * ((M.1 7)).toInt64) * ((M.1 7)).toInt64)), .long (M.2.1 2), .int (M.1 23), .int (M.1 24), .int (M.1 25), .int (M.1 26), .int (M.1 27), .int (M.1 28)])), (A 1, .inr (5, [.ref (A 2), .ref (A 3), .ref (A 4), .ref (A 5), .int (M.1 0)])), (A 3, .inl (Z 0, 4, .inl (M.2.2.1 3)))] := hD
    have hP9 := hP.sub (ws' := [(A 17, xc17 Z A (ap_Control_addDose M ((M.2.1 1) + (((z2).toInt64 * ((M.1 7)).toInt64) * ((M.1 7)).toInt64)))), (A 11, xc11 Z A (ap_Control_addDose M ((M.2.1 1) + (((z2).toInt64 * ((M.1 7)).toInt64) * ((M.1 7)).toInt64)))), (A 19, xc19 Z A (ap_Control_addDose M ((M.2.1 1) + (((z2).toInt64 * ((M.1 7)).toInt64) * ((M.1 7)).toInt64)))), (A 1, xc1 Z A (ap_Control_addDose M ((M.2.1 1) + (((z2).toInt64 * ((M.1 7)).toInt64) * ((M.1 7)).toInt64)))), (A 3, xc3 Z A (ap_Control_addDose M ((M.2.1 1) + (((z2).toInt64 * ((M.1 7)).toInt64) * ((M.1 7)).toInt64))))]) [0, 1, 2, 3, 4] rfl
    have hD9 := hD.sub (ws' := [(A 17, xc17 Z A (ap_Control_addDose M ((M.2.1 1) + (((z2).toInt64 * ((M.1 7)).toInt64) * ((M.1 7)).toInt64)))), (A 11, xc11 Z A (ap_Control_addDose M ((M.2.1 1) + (((z2).toInt64 * ((M.1 7)).toInt64) * ((M.1 7)).toInt64)))), (A 19, xc19 Z A (ap_Control_addDose M ((M.2.1 1) + (((z2).toInt64 * ((M.1 7)).toInt64) * ((M.1 7)).toInt64)))), (A 1, xc1 Z A (ap_Control_addDose M ((M.2.1 1) + (((z2).toInt64 * ((M.1 7)).toInt64) * ((M.1 7)).toInt64)))), (A 3, xc3 Z A (ap_Control_addDose M ((M.2.1 1) + (((z2).toInt64 * ((M.1 7)).toInt64) * ((M.1 7)).toInt64))))]) [0, 1, 2, 3, 4] (by decide) rfl
    exact W.vret hx hb hr (fun t ht hW => ⟨⟨((M.2.1 1) + (((z2).toInt64 * ((M.1 7)).toInt64) * ((M.1 7)).toInt64)), rfl, (by rw [F_Control_addDose, if_pos h1, ← hz2, F_Control_addDose_k3]), xE_at hP9 hK hD9 ht hW⟩, hS.F ht⟩) hS.2.2 d_Control_addDose_48
abbrev bc_Control_keepToGoal : ByteArray := prog_2_method_17_code
def y_Control_keepToGoal : MethodName := ⟨"CentrifugeUnit$Control", "keepToGoal", "()V"⟩
theorem d_Control_keepToGoal_0 : decode bc_Control_keepToGoal 0 = .ok (.aload_n 0, 1) := by decide +kernel
theorem d_Control_keepToGoal_1 : decode bc_Control_keepToGoal 1 = .ok (.getfield 21, 3) := by decide +kernel
theorem d_Control_keepToGoal_4 : decode bc_Control_keepToGoal 4 = .ok (.getfield 208, 3) := by decide +kernel
theorem d_Control_keepToGoal_7 : decode bc_Control_keepToGoal 7 = .ok (.aload_n 0, 1) := by decide +kernel
theorem d_Control_keepToGoal_8 : decode bc_Control_keepToGoal 8 = .ok (.getfield 47, 3) := by decide +kernel
theorem d_Control_keepToGoal_11 : decode bc_Control_keepToGoal 11 = .ok (.getfield 105, 3) := by decide +kernel
theorem d_Control_keepToGoal_14 : decode bc_Control_keepToGoal 14 = .ok (.isub, 1) := by decide +kernel
theorem d_Control_keepToGoal_15 : decode bc_Control_keepToGoal 15 = .ok (.istore_n 1, 1) := by decide +kernel
theorem d_Control_keepToGoal_16 : decode bc_Control_keepToGoal 16 = .ok (.iload_n 1, 1) := by decide +kernel
theorem d_Control_keepToGoal_17 : decode bc_Control_keepToGoal 17 = .ok (.sipush (-200), 3) := by decide +kernel
theorem d_Control_keepToGoal_20 : decode bc_Control_keepToGoal 20 = .ok (.if_icmp .ge 11, 3) := by decide +kernel
theorem d_Control_keepToGoal_23 : decode bc_Control_keepToGoal 23 = .ok (.aload_n 0, 1) := by decide +kernel
theorem d_Control_keepToGoal_24 : decode bc_Control_keepToGoal 24 = .ok (.iconst 3, 1) := by decide +kernel
theorem d_Control_keepToGoal_25 : decode bc_Control_keepToGoal 25 = .ok (.putfield 68, 3) := by decide +kernel
theorem d_Control_keepToGoal_28 : decode bc_Control_keepToGoal 28 = .ok (.goto 32, 3) := by decide +kernel
theorem d_Control_keepToGoal_31 : decode bc_Control_keepToGoal 31 = .ok (.aload_n 0, 1) := by decide +kernel
theorem d_Control_keepToGoal_32 : decode bc_Control_keepToGoal 32 = .ok (.getfield 21, 3) := by decide +kernel
theorem d_Control_keepToGoal_35 : decode bc_Control_keepToGoal 35 = .ok (.getfield 208, 3) := by decide +kernel
theorem d_Control_keepToGoal_38 : decode bc_Control_keepToGoal 38 = .ok (.ifCond .eq 22, 3) := by decide +kernel
theorem d_Control_keepToGoal_41 : decode bc_Control_keepToGoal 41 = .ok (.aload_n 0, 1) := by decide +kernel
theorem d_Control_keepToGoal_42 : decode bc_Control_keepToGoal 42 = .ok (.iconst 0, 1) := by decide +kernel
theorem d_Control_keepToGoal_43 : decode bc_Control_keepToGoal 43 = .ok (.bipush 100, 2) := by decide +kernel
theorem d_Control_keepToGoal_45 : decode bc_Control_keepToGoal 45 = .ok (.bipush 40, 2) := by decide +kernel
theorem d_Control_keepToGoal_47 : decode bc_Control_keepToGoal 47 = .ok (.iload_n 1, 1) := by decide +kernel
theorem d_Control_keepToGoal_48 : decode bc_Control_keepToGoal 48 = .ok (.iconst 4, 1) := by decide +kernel
theorem d_Control_keepToGoal_49 : decode bc_Control_keepToGoal 49 = .ok (.idiv, 1) := by decide +kernel
theorem d_Control_keepToGoal_50 : decode bc_Control_keepToGoal 50 = .ok (.iadd, 1) := by decide +kernel
theorem d_Control_keepToGoal_51 : decode bc_Control_keepToGoal 51 = .ok (.invokestatic 218, 3) := by decide +kernel
theorem d_Control_keepToGoal_54 : decode bc_Control_keepToGoal 54 = .ok (.invokestatic 124, 3) := by decide +kernel
theorem d_Control_keepToGoal_57 : decode bc_Control_keepToGoal 57 = .ok (.putfield 65, 3) := by decide +kernel
theorem d_Control_keepToGoal_60 : decode bc_Control_keepToGoal 60 = .ok (.return_, 1) := by decide +kernel
abbrev ap_Control_keepToGoal (M : XM) (u : (Int32 × Int32)) : XM := ((va_up (va_up M.1 16 (u.1)) 17 (u.2)), M.2)
def F_Control_keepToGoal_k6 (M : XM) (z3 : Int32) (z5 : Int32) : (Int32 × Int32) := (z5, (M.1 17))
def F_Control_keepToGoal_k4 (M : XM) (z3 : Int32) : (Int32 × Int32) := (F_Control_keepToGoal_k6 M z3 (if 0 < z3 then z3 else 0))
def F_Control_keepToGoal (M : XM) : (Int32 × Int32) := (if (-200) ≤ ((M.1 28) - (M.1 6)) then (if (M.1 28) = 0 then ((M.1 16), (M.1 17)) else (F_Control_keepToGoal_k4 M (if (40 + (((M.1 28) - (M.1 6)) / 4)) < 100 then (40 + (((M.1 28) - (M.1 6)) / 4)) else 100))) else ((M.1 16), 3))
set_option maxHeartbeats 4000000 in
set_option maxRecDepth 100000 in
theorem c_Control_keepToGoal (l : Launch) (dC : Nat → ClassId) (dI : Nat → Nat → Nat) (Z : Nat → ClassId) (A : Nat → Nat) (sz : Nat) (M : XM) : Met l y_Control_keepToGoal (.code y_Control_keepToGoal bc_Control_keepToGoal 2 none :: xw) ({ frames := 1, cells := 0, slots := 0, locals := 23 }) (va_Pc [.ref (A 17)] (xB (dC, dI) xcl (xty Z) sz [(A 17, xc17 Z A M), (A 19, xc19 Z A M), (A 11, xc11 Z A M)])) (va_Qv (fun u : (Int32 × Int32) => u = F_Control_keepToGoal M) (fun u => xE (dC, dI) xcl (xty Z) (va_A [(A 17, xc17 Z A M), (A 19, xc19 Z A M), (A 11, xc11 Z A M)] sz) [(A 17, xc17 Z A (ap_Control_keepToGoal M u)), (A 19, xc19 Z A (ap_Control_keepToGoal M u)), (A 11, xc11 Z A (ap_Control_keepToGoal M u))]) (va_A [(A 17, xc17 Z A M), (A 19, xc19 Z A M), (A 11, xc11 Z A M)] sz)) 0 0 (va_A [(A 17, xc17 Z A M), (A 19, xc19 Z A M), (A 11, xc11 Z A M)] sz) := by
  refine Met.ofW (cc := bc_Control_keepToGoal) (maxL := 2) (ret := none) (by decide) rfl ?_
  intro p e s m args below meth c s₁ B hml hv
  obtain ⟨rfl, hsz, hP, hK, hD0, hq⟩ := hv
  have hx := B.exec
  have hb := B.bytes
  have hr := B.returns
  have hts := atoms_spec (ws := (.code y_Control_keepToGoal bc_Control_keepToGoal 2 none :: xw)) B.pre
  have htt : ∀ w ∈ xw, w.before _ s = true := fun w h => hts w (List.mem_cons_of_mem _ h)
  have hown : s.vm.findClass "CentrifugeUnit$Control" = some m.cls := findClass_of_methodNamed B.named
  have hlocks := B.notSynchronized
  subst hsz
  have hD := hD0.self (sz := s.heap.size)
  generalize hAe : va_A [(A 17, xc17 Z A M), (A 19, xc19 Z A M), (A 11, xc11 Z A M)] s.heap.size = AA at hD ⊢
  have hA : ∀ q : Nat, s.heap.size ≤ q → AA q := fun q h => by rw [← hAe]; exact Or.inr h
  have hS : va_S AA s.heap s.heap [] := va_S.rf
  have hP : va_P (dC, dI) xcl [(A 17, .inr (0, [.ref (A 1), .ref (A 6), .ref (A 11), .ref (A 12), .ref (A 13), .ref (A 18), .ref (A 19), .int (M.1 12), .int (M.1 13), .int (M.1 14), .int (M.1 15), .int (M.1 16), .int (M.1 17), .int (M.1 18)])), (A 19, .inr (6, [.long (M.2.1 1), .long (M.2.1 2), .int (M.1 23), .int (M.1 24), .int (M.1 25), .int (M.1 26), .int (M.1 27), .int (M.1 28)])), (A 11, .inr (7, [.int (M.1 2), .int (M.1 3), .int (M.1 4), .int (M.1 5), .int (M.1 6), .int (M.1 7)]))] s.heap := hP
  have hD : va_D AA [(A 17, .inr (0, [.ref (A 1), .ref (A 6), .ref (A 11), .ref (A 12), .ref (A 13), .ref (A 18), .ref (A 19), .int (M.1 12), .int (M.1 13), .int (M.1 14), .int (M.1 15), .int (M.1 16), .int (M.1 17), .int (M.1 18)])), (A 19, .inr (6, [.long (M.2.1 1), .long (M.2.1 2), .int (M.1 23), .int (M.1 24), .int (M.1 25), .int (M.1 26), .int (M.1 27), .int (M.1 28)])), (A 11, .inr (7, [.int (M.1 2), .int (M.1 3), .int (M.1 4), .int (M.1 5), .int (M.1 6), .int (M.1 7)]))] := hD
  have hl := lv_entry ([.ref (A 17)]) (n := 2) (Nat.le_of_ble_eq_true rfl)
  rw [lg_entry_eq]
  generalize (lg_sl ([.ref (A 17)]) ++ List.replicate (2 - (lg_sl ([.ref (A 17)])).length) Slot.unset).toArray = ls at hl ⊢
  have hl : lv_has ls 2 [(0, .ref (A 17))] := hl
  refine lv_aload_n hx hb d_Control_keepToGoal_0 rfl (lv_at hl 0 rfl) ?_
  refine va_get (D := (dC, dI)) (ci := 0) (v := .ref (A 19)) (C := "CentrifugeUnit$Control") (T := xF0) (N := 14) hx hb htt xin0 hown hK hP 0 rfl rfl 6 (by decide) (htt _ tw_238) (fun _ h9 => h9) rfl d_Control_keepToGoal_1 ?_
  refine va_get (D := (dC, dI)) (ci := 6) (v := .int (M.1 28)) (C := "CentrifugeUnit$Run") (T := xF6) (N := 8) hx hb htt xin6 hown hK hP 1 rfl rfl 7 (by decide) (htt _ tw_213) (fun _ h9 => h9) rfl d_Control_keepToGoal_4 ?_
  refine lv_aload_n hx hb d_Control_keepToGoal_7 rfl (lv_at hl 0 rfl) ?_
  refine va_get (D := (dC, dI)) (ci := 0) (v := .ref (A 11)) (C := "CentrifugeUnit$Control") (T := xF0) (N := 14) hx hb htt xin0 hown hK hP 0 rfl rfl 2 (by decide) (htt _ tw_233) (fun _ h9 => h9) rfl d_Control_keepToGoal_8 ?_
  refine va_get (D := (dC, dI)) (ci := 7) (v := .int (M.1 6)) (C := "CentrifugeUnit$Sensors") (T := xF7) (N := 6) hx hb htt xin7 hown hK hP 2 rfl rfl 4 (by decide) (htt _ tw_105) (fun _ h9 => h9) rfl d_Control_keepToGoal_11 ?_
  refine lv_isub hx hb d_Control_keepToGoal_14 ?_
  refine lv_istore_n (lv' := [(1, .int ((M.1 28) - (M.1 6))), (0, .ref (A 17))]) hx hb d_Control_keepToGoal_15 rfl hl (by decide) rfl (fun ls hl => ?_)
  refine lv_iload_n hx hb d_Control_keepToGoal_16 rfl (lv_at hl 0 rfl) ?_
  refine lv_sipush (v := (-200)) hx hb d_Control_keepToGoal_17 (by decide) ?_
  refine lv_icmp_ge (tgt := 31) hx hb d_Control_keepToGoal_20 rfl (fun h1 => ?_) (fun h1 => ?_)
  · refine lv_aload_n hx hb d_Control_keepToGoal_31 rfl (lv_at hl 1 rfl) ?_
    refine va_get (D := (dC, dI)) (ci := 0) (v := .ref (A 19)) (C := "CentrifugeUnit$Control") (T := xF0) (N := 14) hx hb htt xin0 hown hK hP 0 rfl rfl 6 (by decide) (htt _ tw_238) (fun _ h9 => h9) rfl d_Control_keepToGoal_32 ?_
    refine va_get (D := (dC, dI)) (ci := 6) (v := .int (M.1 28)) (C := "CentrifugeUnit$Run") (T := xF6) (N := 8) hx hb htt xin6 hown hK hP 1 rfl rfl 7 (by decide) (htt _ tw_213) (fun _ h9 => h9) rfl d_Control_keepToGoal_35 ?_
    refine lv_if_eq (tgt := 60) hx hb d_Control_keepToGoal_38 rfl (fun h2 => ?_) (fun h2 => ?_)
    · have hP9 := hP.sub (ws' := [(A 17, xc17 Z A (ap_Control_keepToGoal M ((M.1 16), (M.1 17)))), (A 19, xc19 Z A (ap_Control_keepToGoal M ((M.1 16), (M.1 17)))), (A 11, xc11 Z A (ap_Control_keepToGoal M ((M.1 16), (M.1 17))))]) [0, 1, 2] rfl
      have hD9 := hD.sub (ws' := [(A 17, xc17 Z A (ap_Control_keepToGoal M ((M.1 16), (M.1 17)))), (A 19, xc19 Z A (ap_Control_keepToGoal M ((M.1 16), (M.1 17)))), (A 11, xc11 Z A (ap_Control_keepToGoal M ((M.1 16), (M.1 17))))]) [0, 1, 2] (by decide) rfl
      exact W.vret hx hb hr (fun t ht hW => ⟨⟨((M.1 16), (M.1 17)), rfl, (by rw [F_Control_keepToGoal, if_pos h1, if_pos h2]), xE_at hP9 hK hD9 ht hW⟩, hS.F ht⟩) hS.2.2 d_Control_keepToGoal_60
    · refine lv_aload_n hx hb d_Control_keepToGoal_41 rfl (lv_at hl 1 rfl) ?_
      refine lv_iconst (v := 0) hx hb d_Control_keepToGoal_42 (by decide) ?_
      refine lv_bipush (v := 100) hx hb d_Control_keepToGoal_43 (by decide) ?_
      refine lv_bipush (v := 40) hx hb d_Control_keepToGoal_45 (by decide) ?_
      refine lv_iload_n hx hb d_Control_keepToGoal_47 rfl (lv_at hl 0 rfl) ?_
      refine lv_iconst (v := 4) hx hb d_Control_keepToGoal_48 (by decide) ?_
      refine lv_idiv hx hb d_Control_keepToGoal_49 (by decide) ?_
      refine lv_iadd hx hb d_Control_keepToGoal_50 ?_
      refine va_mmin hx hb (hml.trans hl.1.symm) hown (htt _ tw_687) (htt _ tw_614) (htt _ tw_18) (htt _ tw_615) (Nat.le_of_ble_eq_true rfl) (Nat.le_of_ble_eq_true rfl) (Nat.le_of_ble_eq_true rfl) (Nat.le_of_ble_eq_true rfl) d_Control_keepToGoal_51 ?_
      refine lv_topi (fun z3 hz3 => ?_)
      refine va_mmax hx hb (hml.trans hl.1.symm) hown (htt _ tw_634) (htt _ tw_611) (htt _ tw_18) (htt _ tw_612) (Nat.le_of_ble_eq_true rfl) (Nat.le_of_ble_eq_true rfl) (Nat.le_of_ble_eq_true rfl) (Nat.le_of_ble_eq_true rfl) d_Control_keepToGoal_54 ?_
      refine lv_topi (fun z5 hz5 => ?_)
      refine va_put (D := (dC, dI)) (ci := 0) (v := .int z5) (ty := .int) (C := "CentrifugeUnit$Control") (T := xF0) (N := 14) hx hb htt xin0 xT0 xTo0 xNm0 hown hK hP hD hS 0 rfl rfl 11 (by decide) (htt _ tw_248) (fun _ h9 => h9) rfl (by decide +kernel) rfl rfl (Nat.le_of_ble_eq_true rfl) d_Control_keepToGoal_57 (fun H locs hP hD hS => ?_)
      have hP : va_P (dC, dI) xcl [(A 17, .inr (0, [.ref (A 1), .ref (A 6), .ref (A 11), .ref (A 12), .ref (A 13), .ref (A 18), .ref (A 19), .int (M.1 12), .int (M.1 13), .int (M.1 14), .int (M.1 15), .int z5, .int (M.1 17), .int (M.1 18)])), (A 19, .inr (6, [.long (M.2.1 1), .long (M.2.1 2), .int (M.1 23), .int (M.1 24), .int (M.1 25), .int (M.1 26), .int (M.1 27), .int (M.1 28)])), (A 11, .inr (7, [.int (M.1 2), .int (M.1 3), .int (M.1 4), .int (M.1 5), .int (M.1 6), .int (M.1 7)]))] H := hP
      have hD : va_D AA [(A 17, .inr (0, [.ref (A 1), .ref (A 6), .ref (A 11), .ref (A 12), .ref (A 13), .ref (A 18), .ref (A 19), .int (M.1 12), .int (M.1 13), .int (M.1 14), .int (M.1 15), .int z5, .int (M.1 17), .int (M.1 18)])), (A 19, .inr (6, [.long (M.2.1 1), .long (M.2.1 2), .int (M.1 23), .int (M.1 24), .int (M.1 25), .int (M.1 26), .int (M.1 27), .int (M.1 28)])), (A 11, .inr (7, [.int (M.1 2), .int (M.1 3), .int (M.1 4), .int (M.1 5), .int (M.1 6), .int (M.1 7)]))] := hD
      have hP9 := hP.sub (ws' := [(A 17, xc17 Z A (ap_Control_keepToGoal M (z5, (M.1 17)))), (A 19, xc19 Z A (ap_Control_keepToGoal M (z5, (M.1 17)))), (A 11, xc11 Z A (ap_Control_keepToGoal M (z5, (M.1 17))))]) [0, 1, 2] rfl
      have hD9 := hD.sub (ws' := [(A 17, xc17 Z A (ap_Control_keepToGoal M (z5, (M.1 17)))), (A 19, xc19 Z A (ap_Control_keepToGoal M (z5, (M.1 17)))), (A 11, xc11 Z A (ap_Control_keepToGoal M (z5, (M.1 17))))]) [0, 1, 2] (by decide) rfl
      exact W.vret hx hb hr (fun t ht hW => ⟨⟨(z5, (M.1 17)), rfl, (by rw [F_Control_keepToGoal, if_pos h1, if_neg h2, ← hz3, F_Control_keepToGoal_k4, ← hz5, F_Control_keepToGoal_k6]), xE_at hP9 hK hD9 ht hW⟩, hS.F ht⟩) hS.2.2 d_Control_keepToGoal_60
  · refine lv_aload_n hx hb d_Control_keepToGoal_23 rfl (lv_at hl 1 rfl) ?_
    refine lv_iconst (v := 3) hx hb d_Control_keepToGoal_24 (by decide) ?_
    refine va_put (D := (dC, dI)) (ci := 0) (v := .int 3) (ty := .int) (C := "CentrifugeUnit$Control") (T := xF0) (N := 14) hx hb htt xin0 xT0 xTo0 xNm0 hown hK hP hD hS 0 rfl rfl 12 (by decide) (htt _ tw_250) (fun _ h9 => h9) rfl (by decide +kernel) rfl rfl (Nat.le_of_ble_eq_true rfl) d_Control_keepToGoal_25 (fun H locs hP hD hS => ?_)
    have hP : va_P (dC, dI) xcl [(A 17, .inr (0, [.ref (A 1), .ref (A 6), .ref (A 11), .ref (A 12), .ref (A 13), .ref (A 18), .ref (A 19), .int (M.1 12), .int (M.1 13), .int (M.1 14), .int (M.1 15), .int (M.1 16), .int 3, .int (M.1 18)])), (A 19, .inr (6, [.long (M.2.1 1), .long (M.2.1 2), .int (M.1 23), .int (M.1 24), .int (M.1 25), .int (M.1 26), .int (M.1 27), .int (M.1 28)])), (A 11, .inr (7, [.int (M.1 2), .int (M.1 3), .int (M.1 4), .int (M.1 5), .int (M.1 6), .int (M.1 7)]))] H := hP
    have hD : va_D AA [(A 17, .inr (0, [.ref (A 1), .ref (A 6), .ref (A 11), .ref (A 12), .ref (A 13), .ref (A 18), .ref (A 19), .int (M.1 12), .int (M.1 13), .int (M.1 14), .int (M.1 15), .int (M.1 16), .int 3, .int (M.1 18)])), (A 19, .inr (6, [.long (M.2.1 1), .long (M.2.1 2), .int (M.1 23), .int (M.1 24), .int (M.1 25), .int (M.1 26), .int (M.1 27), .int (M.1 28)])), (A 11, .inr (7, [.int (M.1 2), .int (M.1 3), .int (M.1 4), .int (M.1 5), .int (M.1 6), .int (M.1 7)]))] := hD
    refine lv_goto (tgt := 60) hx hb d_Control_keepToGoal_28 rfl ?_
    have hP9 := hP.sub (ws' := [(A 17, xc17 Z A (ap_Control_keepToGoal M ((M.1 16), 3))), (A 19, xc19 Z A (ap_Control_keepToGoal M ((M.1 16), 3))), (A 11, xc11 Z A (ap_Control_keepToGoal M ((M.1 16), 3)))]) [0, 1, 2] rfl
    have hD9 := hD.sub (ws' := [(A 17, xc17 Z A (ap_Control_keepToGoal M ((M.1 16), 3))), (A 19, xc19 Z A (ap_Control_keepToGoal M ((M.1 16), 3))), (A 11, xc11 Z A (ap_Control_keepToGoal M ((M.1 16), 3)))]) [0, 1, 2] (by decide) rfl
    exact W.vret hx hb hr (fun t ht hW => ⟨⟨((M.1 16), 3), rfl, (by rw [F_Control_keepToGoal, if_neg h1]), xE_at hP9 hK hD9 ht hW⟩, hS.F ht⟩) hS.2.2 d_Control_keepToGoal_60
abbrev bc_Control_slowDown : ByteArray := prog_2_method_16_code
def y_Control_slowDown : MethodName := ⟨"CentrifugeUnit$Control", "slowDown", "(II)Z"⟩
theorem d_Control_slowDown_0 : decode bc_Control_slowDown 0 = .ok (.aload_n 0, 1) := by decide +kernel
theorem d_Control_slowDown_1 : decode bc_Control_slowDown 1 = .ok (.iload_n 2, 1) := by decide +kernel
theorem d_Control_slowDown_2 : decode bc_Control_slowDown 2 = .ok (.putfield 68, 3) := by decide +kernel
theorem d_Control_slowDown_5 : decode bc_Control_slowDown 5 = .ok (.aload_n 0, 1) := by decide +kernel
theorem d_Control_slowDown_6 : decode bc_Control_slowDown 6 = .ok (.getfield 47, 3) := by decide +kernel
theorem d_Control_slowDown_9 : decode bc_Control_slowDown 9 = .ok (.getfield 105, 3) := by decide +kernel
theorem d_Control_slowDown_12 : decode bc_Control_slowDown 12 = .ok (.iload_n 1, 1) := by decide +kernel
theorem d_Control_slowDown_13 : decode bc_Control_slowDown 13 = .ok (.if_icmp .le 5, 3) := by decide +kernel
theorem d_Control_slowDown_16 : decode bc_Control_slowDown 16 = .ok (.iconst 0, 1) := by decide +kernel
theorem d_Control_slowDown_17 : decode bc_Control_slowDown 17 = .ok (.ireturn, 1) := by decide +kernel
theorem d_Control_slowDown_18 : decode bc_Control_slowDown 18 = .ok (.aload_n 0, 1) := by decide +kernel
theorem d_Control_slowDown_19 : decode bc_Control_slowDown 19 = .ok (.getfield 21, 3) := by decide +kernel
theorem d_Control_slowDown_22 : decode bc_Control_slowDown 22 = .ok (.iload_n 1, 1) := by decide +kernel
theorem d_Control_slowDown_23 : decode bc_Control_slowDown 23 = .ok (.putfield 208, 3) := by decide +kernel
theorem d_Control_slowDown_26 : decode bc_Control_slowDown 26 = .ok (.iconst 1, 1) := by decide +kernel
theorem d_Control_slowDown_27 : decode bc_Control_slowDown 27 = .ok (.ireturn, 1) := by decide +kernel
abbrev ap_Control_slowDown (M : XM) (u : (Int32 × Int32)) : XM := ((va_up (va_up M.1 17 (u.1)) 28 (u.2)), M.2)
def F_Control_slowDown (M : XM) (a1 : Int32) (a2 : Int32) : Int32 × (Int32 × Int32) := (if (M.1 6) ≤ a1 then (1, (a2, a1)) else (0, (a2, (M.1 28))))
theorem f01_Control_slowDown (M : XM) (a1 : Int32) (a2 : Int32) : (F_Control_slowDown M a1 a2).1 = 0 ∨ (F_Control_slowDown M a1 a2).1 = 1 := by
  simp only [F_Control_slowDown]; repeat' split
  all_goals first | exact Or.inl rfl | exact Or.inr rfl | simp
set_option maxHeartbeats 4000000 in
set_option maxRecDepth 100000 in
theorem c_Control_slowDown (l : Launch) (dC : Nat → ClassId) (dI : Nat → Nat → Nat) (Z : Nat → ClassId) (A : Nat → Nat) (sz : Nat) (M : XM) (a1 : Int32) (a2 : Int32) : Met l y_Control_slowDown (.code y_Control_slowDown bc_Control_slowDown 3 (some .boolean) :: xw) ({ frames := 0, cells := 0, slots := 0, locals := 0 }) (va_Pc [.ref (A 17), .int a1, .int a2] (xB (dC, dI) xcl (xty Z) sz [(A 17, xc17 Z A M), (A 19, xc19 Z A M), (A 11, xc11 Z A M)])) (va_Qi (fun (r : Int32) (u : (Int32 × Int32)) => (r, u) = F_Control_slowDown M a1 a2) (fun u => xE (dC, dI) xcl (xty Z) (va_A [(A 17, xc17 Z A M), (A 19, xc19 Z A M), (A 11, xc11 Z A M)] sz) [(A 17, xc17 Z A (ap_Control_slowDown M u)), (A 19, xc19 Z A (ap_Control_slowDown M u)), (A 11, xc11 Z A (ap_Control_slowDown M u))]) (va_A [(A 17, xc17 Z A M), (A 19, xc19 Z A M), (A 11, xc11 Z A M)] sz)) 0 0 (va_A [(A 17, xc17 Z A M), (A 19, xc19 Z A M), (A 11, xc11 Z A M)] sz) := by
  refine Met.ofW (cc := bc_Control_slowDown) (maxL := 3) (ret := (some .boolean)) (by decide) rfl ?_
  intro p e s m args below meth c s₁ B hml hv
  obtain ⟨rfl, hsz, hP, hK, hD0, hq⟩ := hv
  have hx := B.exec
  have hb := B.bytes
  have hr := B.returns
  have hts := atoms_spec (ws := (.code y_Control_slowDown bc_Control_slowDown 3 (some .boolean) :: xw)) B.pre
  have htt : ∀ w ∈ xw, w.before _ s = true := fun w h => hts w (List.mem_cons_of_mem _ h)
  have hown : s.vm.findClass "CentrifugeUnit$Control" = some m.cls := findClass_of_methodNamed B.named
  have hlocks := B.notSynchronized
  subst hsz
  have hD := hD0.self (sz := s.heap.size)
  generalize hAe : va_A [(A 17, xc17 Z A M), (A 19, xc19 Z A M), (A 11, xc11 Z A M)] s.heap.size = AA at hD ⊢
  have hA : ∀ q : Nat, s.heap.size ≤ q → AA q := fun q h => by rw [← hAe]; exact Or.inr h
  have hS : va_S AA s.heap s.heap [] := va_S.rf
  have hP : va_P (dC, dI) xcl [(A 17, .inr (0, [.ref (A 1), .ref (A 6), .ref (A 11), .ref (A 12), .ref (A 13), .ref (A 18), .ref (A 19), .int (M.1 12), .int (M.1 13), .int (M.1 14), .int (M.1 15), .int (M.1 16), .int (M.1 17), .int (M.1 18)])), (A 19, .inr (6, [.long (M.2.1 1), .long (M.2.1 2), .int (M.1 23), .int (M.1 24), .int (M.1 25), .int (M.1 26), .int (M.1 27), .int (M.1 28)])), (A 11, .inr (7, [.int (M.1 2), .int (M.1 3), .int (M.1 4), .int (M.1 5), .int (M.1 6), .int (M.1 7)]))] s.heap := hP
  have hD : va_D AA [(A 17, .inr (0, [.ref (A 1), .ref (A 6), .ref (A 11), .ref (A 12), .ref (A 13), .ref (A 18), .ref (A 19), .int (M.1 12), .int (M.1 13), .int (M.1 14), .int (M.1 15), .int (M.1 16), .int (M.1 17), .int (M.1 18)])), (A 19, .inr (6, [.long (M.2.1 1), .long (M.2.1 2), .int (M.1 23), .int (M.1 24), .int (M.1 25), .int (M.1 26), .int (M.1 27), .int (M.1 28)])), (A 11, .inr (7, [.int (M.1 2), .int (M.1 3), .int (M.1 4), .int (M.1 5), .int (M.1 6), .int (M.1 7)]))] := hD
  have hl := lv_entry ([.ref (A 17), .int a1, .int a2]) (n := 3) (Nat.le_of_ble_eq_true rfl)
  rw [lg_entry_eq]
  generalize (lg_sl ([.ref (A 17), .int a1, .int a2]) ++ List.replicate (3 - (lg_sl ([.ref (A 17), .int a1, .int a2])).length) Slot.unset).toArray = ls at hl ⊢
  have hl : lv_has ls 3 [(0, .ref (A 17)), (1, .int a1), (2, .int a2)] := hl
  refine lv_aload_n hx hb d_Control_slowDown_0 rfl (lv_at hl 0 rfl) ?_
  refine lv_iload_n hx hb d_Control_slowDown_1 rfl (lv_at hl 2 rfl) ?_
  refine va_put (D := (dC, dI)) (ci := 0) (v := .int a2) (ty := .int) (C := "CentrifugeUnit$Control") (T := xF0) (N := 14) hx hb htt xin0 xT0 xTo0 xNm0 hown hK hP hD hS 0 rfl rfl 12 (by decide) (htt _ tw_250) (fun _ h9 => h9) rfl (by decide +kernel) rfl rfl (Nat.le_of_ble_eq_true rfl) d_Control_slowDown_2 (fun H locs hP hD hS => ?_)
  have hP : va_P (dC, dI) xcl [(A 17, .inr (0, [.ref (A 1), .ref (A 6), .ref (A 11), .ref (A 12), .ref (A 13), .ref (A 18), .ref (A 19), .int (M.1 12), .int (M.1 13), .int (M.1 14), .int (M.1 15), .int (M.1 16), .int a2, .int (M.1 18)])), (A 19, .inr (6, [.long (M.2.1 1), .long (M.2.1 2), .int (M.1 23), .int (M.1 24), .int (M.1 25), .int (M.1 26), .int (M.1 27), .int (M.1 28)])), (A 11, .inr (7, [.int (M.1 2), .int (M.1 3), .int (M.1 4), .int (M.1 5), .int (M.1 6), .int (M.1 7)]))] H := hP
  have hD : va_D AA [(A 17, .inr (0, [.ref (A 1), .ref (A 6), .ref (A 11), .ref (A 12), .ref (A 13), .ref (A 18), .ref (A 19), .int (M.1 12), .int (M.1 13), .int (M.1 14), .int (M.1 15), .int (M.1 16), .int a2, .int (M.1 18)])), (A 19, .inr (6, [.long (M.2.1 1), .long (M.2.1 2), .int (M.1 23), .int (M.1 24), .int (M.1 25), .int (M.1 26), .int (M.1 27), .int (M.1 28)])), (A 11, .inr (7, [.int (M.1 2), .int (M.1 3), .int (M.1 4), .int (M.1 5), .int (M.1 6), .int (M.1 7)]))] := hD
  refine lv_aload_n hx hb d_Control_slowDown_5 rfl (lv_at hl 0 rfl) ?_
  refine va_get (D := (dC, dI)) (ci := 0) (v := .ref (A 11)) (C := "CentrifugeUnit$Control") (T := xF0) (N := 14) hx hb htt xin0 hown hK hP 0 rfl rfl 2 (by decide) (htt _ tw_233) (fun _ h9 => h9) rfl d_Control_slowDown_6 ?_
  refine va_get (D := (dC, dI)) (ci := 7) (v := .int (M.1 6)) (C := "CentrifugeUnit$Sensors") (T := xF7) (N := 6) hx hb htt xin7 hown hK hP 2 rfl rfl 4 (by decide) (htt _ tw_105) (fun _ h9 => h9) rfl d_Control_slowDown_9 ?_
  refine lv_iload_n hx hb d_Control_slowDown_12 rfl (lv_at hl 1 rfl) ?_
  refine lv_icmp_le (tgt := 18) hx hb d_Control_slowDown_13 rfl (fun h1 => ?_) (fun h1 => ?_)
  · refine lv_aload_n hx hb d_Control_slowDown_18 rfl (lv_at hl 0 rfl) ?_
    refine va_get (D := (dC, dI)) (ci := 0) (v := .ref (A 19)) (C := "CentrifugeUnit$Control") (T := xF0) (N := 14) hx hb htt xin0 hown hK hP 0 rfl rfl 6 (by decide) (htt _ tw_238) (fun _ h9 => h9) rfl d_Control_slowDown_19 ?_
    refine lv_iload_n hx hb d_Control_slowDown_22 rfl (lv_at hl 1 rfl) ?_
    refine va_put (D := (dC, dI)) (ci := 6) (v := .int a1) (ty := .int) (C := "CentrifugeUnit$Run") (T := xF6) (N := 8) hx hb htt xin6 xT6 xTo6 xNm6 hown hK hP hD hS 1 rfl rfl 7 (by decide) (htt _ tw_213) (fun _ h9 => h9) rfl (by decide +kernel) rfl rfl (Nat.le_of_ble_eq_true rfl) d_Control_slowDown_23 (fun H locs hP hD hS => ?_)
    have hP : va_P (dC, dI) xcl [(A 17, .inr (0, [.ref (A 1), .ref (A 6), .ref (A 11), .ref (A 12), .ref (A 13), .ref (A 18), .ref (A 19), .int (M.1 12), .int (M.1 13), .int (M.1 14), .int (M.1 15), .int (M.1 16), .int a2, .int (M.1 18)])), (A 19, .inr (6, [.long (M.2.1 1), .long (M.2.1 2), .int (M.1 23), .int (M.1 24), .int (M.1 25), .int (M.1 26), .int (M.1 27), .int a1])), (A 11, .inr (7, [.int (M.1 2), .int (M.1 3), .int (M.1 4), .int (M.1 5), .int (M.1 6), .int (M.1 7)]))] H := hP
    have hD : va_D AA [(A 17, .inr (0, [.ref (A 1), .ref (A 6), .ref (A 11), .ref (A 12), .ref (A 13), .ref (A 18), .ref (A 19), .int (M.1 12), .int (M.1 13), .int (M.1 14), .int (M.1 15), .int (M.1 16), .int a2, .int (M.1 18)])), (A 19, .inr (6, [.long (M.2.1 1), .long (M.2.1 2), .int (M.1 23), .int (M.1 24), .int (M.1 25), .int (M.1 26), .int (M.1 27), .int a1])), (A 11, .inr (7, [.int (M.1 2), .int (M.1 3), .int (M.1 4), .int (M.1 5), .int (M.1 6), .int (M.1 7)]))] := hD
    refine lv_iconst (v := 1) hx hb d_Control_slowDown_26 (by decide) ?_
    have hP9 := hP.sub (ws' := [(A 17, xc17 Z A (ap_Control_slowDown M (a2, a1))), (A 19, xc19 Z A (ap_Control_slowDown M (a2, a1))), (A 11, xc11 Z A (ap_Control_slowDown M (a2, a1)))]) [0, 1, 2] rfl
    have hD9 := hD.sub (ws' := [(A 17, xc17 Z A (ap_Control_slowDown M (a2, a1))), (A 19, xc19 Z A (ap_Control_slowDown M (a2, a1))), (A 11, xc11 Z A (ap_Control_slowDown M (a2, a1)))]) [0, 1, 2] (by decide) rfl
    exact W.zret (ty := .boolean) hx hb hr rfl (fun t ht hW => ⟨⟨1, (a2, a1), rfl, (by rw [F_Control_slowDown, if_pos h1]), xE_at hP9 hK hD9 ht hW⟩, hS.F ht⟩) hS.2.2 d_Control_slowDown_27
  · refine lv_iconst (v := 0) hx hb d_Control_slowDown_16 (by decide) ?_
    have hP9 := hP.sub (ws' := [(A 17, xc17 Z A (ap_Control_slowDown M (a2, (M.1 28)))), (A 19, xc19 Z A (ap_Control_slowDown M (a2, (M.1 28)))), (A 11, xc11 Z A (ap_Control_slowDown M (a2, (M.1 28))))]) [0, 1, 2] rfl
    have hD9 := hD.sub (ws' := [(A 17, xc17 Z A (ap_Control_slowDown M (a2, (M.1 28)))), (A 19, xc19 Z A (ap_Control_slowDown M (a2, (M.1 28)))), (A 11, xc11 Z A (ap_Control_slowDown M (a2, (M.1 28))))]) [0, 1, 2] (by decide) rfl
    exact W.zret (ty := .boolean) hx hb hr rfl (fun t ht hW => ⟨⟨0, (a2, (M.1 28)), rfl, (by rw [F_Control_slowDown, if_neg h1]), xE_at hP9 hK hD9 ht hW⟩, hS.F ht⟩) hS.2.2 d_Control_slowDown_17
abbrev bc_Control_ramp : ByteArray := prog_2_method_15_code
def y_Control_ramp : MethodName := ⟨"CentrifugeUnit$Control", "ramp", "(II)Z"⟩
theorem d_Control_ramp_0 : decode bc_Control_ramp 0 = .ok (.aload_n 0, 1) := by decide +kernel
theorem d_Control_ramp_1 : decode bc_Control_ramp 1 = .ok (.getfield 47, 3) := by decide +kernel
theorem d_Control_ramp_4 : decode bc_Control_ramp 4 = .ok (.getfield 105, 3) := by decide +kernel
theorem d_Control_ramp_7 : decode bc_Control_ramp 7 = .ok (.istore_n 3, 1) := by decide +kernel
theorem d_Control_ramp_8 : decode bc_Control_ramp 8 = .ok (.aload_n 0, 1) := by decide +kernel
theorem d_Control_ramp_9 : decode bc_Control_ramp 9 = .ok (.getfield 21, 3) := by decide +kernel
theorem d_Control_ramp_12 : decode bc_Control_ramp 12 = .ok (.getfield 190, 3) := by decide +kernel
theorem d_Control_ramp_15 : decode bc_Control_ramp 15 = .ok (.iconst 1, 1) := by decide +kernel
theorem d_Control_ramp_16 : decode bc_Control_ramp 16 = .ok (.if_icmp .ne 11, 3) := by decide +kernel
theorem d_Control_ramp_19 : decode bc_Control_ramp 19 = .ok (.aload_n 0, 1) := by decide +kernel
theorem d_Control_ramp_20 : decode bc_Control_ramp 20 = .ok (.getfield 21, 3) := by decide +kernel
theorem d_Control_ramp_23 : decode bc_Control_ramp 23 = .ok (.iload_n 3, 1) := by decide +kernel
theorem d_Control_ramp_24 : decode bc_Control_ramp 24 = .ok (.putfield 208, 3) := by decide +kernel
theorem d_Control_ramp_27 : decode bc_Control_ramp 27 = .ok (.aload_n 0, 1) := by decide +kernel
theorem d_Control_ramp_28 : decode bc_Control_ramp 28 = .ok (.getfield 21, 3) := by decide +kernel
theorem d_Control_ramp_31 : decode bc_Control_ramp 31 = .ok (.iload_n 1, 1) := by decide +kernel
theorem d_Control_ramp_32 : decode bc_Control_ramp 32 = .ok (.iload_n 2, 1) := by decide +kernel
theorem d_Control_ramp_33 : decode bc_Control_ramp 33 = .ok (.invokevirtual 211, 3) := by decide +kernel
theorem d_Control_ramp_36 : decode bc_Control_ramp 36 = .ok (.aload_n 0, 1) := by decide +kernel
theorem d_Control_ramp_37 : decode bc_Control_ramp 37 = .ok (.invokevirtual 203, 3) := by decide +kernel
theorem d_Control_ramp_40 : decode bc_Control_ramp 40 = .ok (.aload_n 0, 1) := by decide +kernel
theorem d_Control_ramp_41 : decode bc_Control_ramp 41 = .ok (.getfield 21, 3) := by decide +kernel
theorem d_Control_ramp_44 : decode bc_Control_ramp 44 = .ok (.getfield 208, 3) := by decide +kernel
theorem d_Control_ramp_47 : decode bc_Control_ramp 47 = .ok (.iload_n 1, 1) := by decide +kernel
theorem d_Control_ramp_48 : decode bc_Control_ramp 48 = .ok (.if_icmp .ne 18, 3) := by decide +kernel
theorem d_Control_ramp_51 : decode bc_Control_ramp 51 = .ok (.iload_n 3, 1) := by decide +kernel
theorem d_Control_ramp_52 : decode bc_Control_ramp 52 = .ok (.iload_n 1, 1) := by decide +kernel
theorem d_Control_ramp_53 : decode bc_Control_ramp 53 = .ok (.isub, 1) := by decide +kernel
theorem d_Control_ramp_54 : decode bc_Control_ramp 54 = .ok (.invokestatic 215, 3) := by decide +kernel
theorem d_Control_ramp_57 : decode bc_Control_ramp 57 = .ok (.bipush 100, 2) := by decide +kernel
theorem d_Control_ramp_59 : decode bc_Control_ramp 59 = .ok (.if_icmp .gt 7, 3) := by decide +kernel
theorem d_Control_ramp_62 : decode bc_Control_ramp 62 = .ok (.iconst 1, 1) := by decide +kernel
theorem d_Control_ramp_63 : decode bc_Control_ramp 63 = .ok (.goto 4, 3) := by decide +kernel
theorem d_Control_ramp_66 : decode bc_Control_ramp 66 = .ok (.iconst 0, 1) := by decide +kernel
theorem d_Control_ramp_67 : decode bc_Control_ramp 67 = .ok (.ireturn, 1) := by decide +kernel
abbrev ap_Control_ramp (M : XM) (u : (Int32 × Int32 × Int32)) : XM := ((va_up (va_up (va_up M.1 28 (u.1)) 16 (u.2.1)) 17 (u.2.2)), M.2)
def F_Control_ramp_k11 (M : XM) (a1 : Int32) (a2 : Int32) (j1 : Int32) (u5 : Int32) (u7 : (Int32 × Int32)) (z10 : Int32) : Int32 × (Int32 × Int32 × Int32) := (if 100 < z10 then (0, (u5, (u7.1), (u7.2))) else (1, (u5, (u7.1), (u7.2))))
def F_Control_ramp_k8 (M : XM) (a1 : Int32) (a2 : Int32) (j1 : Int32) (u5 : Int32) (u7 : (Int32 × Int32)) : Int32 × (Int32 × Int32 × Int32) := (if u5 = a1 then (F_Control_ramp_k11 M a1 a2 j1 u5 u7 (if 0 ≤ ((M.1 6) - a1) then ((M.1 6) - a1) else 0 - ((M.1 6) - a1))) else (0, (u5, (u7.1), (u7.2))))
def F_Control_ramp_k6 (M : XM) (a1 : Int32) (a2 : Int32) (j1 : Int32) (u5 : Int32) : Int32 × (Int32 × Int32 × Int32) := (F_Control_ramp_k8 M a1 a2 j1 u5 (F_Control_keepToGoal ((va_up M.1 28 u5), M.2)))
def F_Control_ramp_k4 (M : XM) (a1 : Int32) (a2 : Int32) (j1 : Int32) : Int32 × (Int32 × Int32 × Int32) := (F_Control_ramp_k6 M a1 a2 j1 (F_Run_moveGoal ((va_up M.1 28 j1), M.2) a1 a2))
def J_Control_ramp_3 (M : XM) (a1 : Int32) (a2 : Int32) : Int32 := (if (M.1 27) = 1 then (M.1 6) else (M.1 28))
def F_Control_ramp (M : XM) (a1 : Int32) (a2 : Int32) : Int32 × (Int32 × Int32 × Int32) := (F_Control_ramp_k4 M a1 a2 (J_Control_ramp_3 M a1 a2))
theorem f01_Control_ramp (M : XM) (a1 : Int32) (a2 : Int32) : (F_Control_ramp M a1 a2).1 = 0 ∨ (F_Control_ramp M a1 a2).1 = 1 := by
  simp only [F_Control_ramp_k11, F_Control_ramp_k8, F_Control_ramp_k6, F_Control_ramp_k4, J_Control_ramp_3, F_Control_ramp]; repeat' split
  all_goals first | exact Or.inl rfl | exact Or.inr rfl | simp
set_option maxHeartbeats 4000000 in
set_option maxRecDepth 100000 in
theorem c_Control_ramp (l : Launch) (dC : Nat → ClassId) (dI : Nat → Nat → Nat) (Z : Nat → ClassId) (A : Nat → Nat) (sz : Nat) (M : XM) (a1 : Int32) (a2 : Int32) : Met l y_Control_ramp (.code y_Control_ramp bc_Control_ramp 4 (some .boolean) :: xw) ({ frames := 2, cells := 0, slots := 0, locals := 45 }) (va_Pc [.ref (A 17), .int a1, .int a2] (xB (dC, dI) xcl (xty Z) sz [(A 17, xc17 Z A M), (A 19, xc19 Z A M), (A 11, xc11 Z A M)])) (va_Qi (fun (r : Int32) (u : (Int32 × Int32 × Int32)) => (r, u) = F_Control_ramp M a1 a2) (fun u => xE (dC, dI) xcl (xty Z) (va_A [(A 17, xc17 Z A M), (A 19, xc19 Z A M), (A 11, xc11 Z A M)] sz) [(A 17, xc17 Z A (ap_Control_ramp M u)), (A 19, xc19 Z A (ap_Control_ramp M u)), (A 11, xc11 Z A (ap_Control_ramp M u))]) (va_A [(A 17, xc17 Z A M), (A 19, xc19 Z A M), (A 11, xc11 Z A M)] sz)) 0 0 (va_A [(A 17, xc17 Z A M), (A 19, xc19 Z A M), (A 11, xc11 Z A M)] sz) := by
  refine Met.ofW (cc := bc_Control_ramp) (maxL := 4) (ret := (some .boolean)) (by decide) rfl ?_
  intro p e s m args below meth c s₁ B hml hv
  obtain ⟨rfl, hsz, hP, hK, hD0, hq⟩ := hv
  have hx := B.exec
  have hb := B.bytes
  have hr := B.returns
  have hts := atoms_spec (ws := (.code y_Control_ramp bc_Control_ramp 4 (some .boolean) :: xw)) B.pre
  have htt : ∀ w ∈ xw, w.before _ s = true := fun w h => hts w (List.mem_cons_of_mem _ h)
  have hown : s.vm.findClass "CentrifugeUnit$Control" = some m.cls := findClass_of_methodNamed B.named
  have hlocks := B.notSynchronized
  subst hsz
  have hD := hD0.self (sz := s.heap.size)
  generalize hAe : va_A [(A 17, xc17 Z A M), (A 19, xc19 Z A M), (A 11, xc11 Z A M)] s.heap.size = AA at hD ⊢
  have hA : ∀ q : Nat, s.heap.size ≤ q → AA q := fun q h => by rw [← hAe]; exact Or.inr h
  have hS : va_S AA s.heap s.heap [] := va_S.rf
  have hP : va_P (dC, dI) xcl [(A 17, .inr (0, [.ref (A 1), .ref (A 6), .ref (A 11), .ref (A 12), .ref (A 13), .ref (A 18), .ref (A 19), .int (M.1 12), .int (M.1 13), .int (M.1 14), .int (M.1 15), .int (M.1 16), .int (M.1 17), .int (M.1 18)])), (A 19, .inr (6, [.long (M.2.1 1), .long (M.2.1 2), .int (M.1 23), .int (M.1 24), .int (M.1 25), .int (M.1 26), .int (M.1 27), .int (M.1 28)])), (A 11, .inr (7, [.int (M.1 2), .int (M.1 3), .int (M.1 4), .int (M.1 5), .int (M.1 6), .int (M.1 7)]))] s.heap := hP
  have hD : va_D AA [(A 17, .inr (0, [.ref (A 1), .ref (A 6), .ref (A 11), .ref (A 12), .ref (A 13), .ref (A 18), .ref (A 19), .int (M.1 12), .int (M.1 13), .int (M.1 14), .int (M.1 15), .int (M.1 16), .int (M.1 17), .int (M.1 18)])), (A 19, .inr (6, [.long (M.2.1 1), .long (M.2.1 2), .int (M.1 23), .int (M.1 24), .int (M.1 25), .int (M.1 26), .int (M.1 27), .int (M.1 28)])), (A 11, .inr (7, [.int (M.1 2), .int (M.1 3), .int (M.1 4), .int (M.1 5), .int (M.1 6), .int (M.1 7)]))] := hD
  have hl := lv_entry ([.ref (A 17), .int a1, .int a2]) (n := 4) (Nat.le_of_ble_eq_true rfl)
  rw [lg_entry_eq]
  generalize (lg_sl ([.ref (A 17), .int a1, .int a2]) ++ List.replicate (4 - (lg_sl ([.ref (A 17), .int a1, .int a2])).length) Slot.unset).toArray = ls at hl ⊢
  have hl : lv_has ls 4 [(0, .ref (A 17)), (1, .int a1), (2, .int a2)] := hl
  refine lv_aload_n hx hb d_Control_ramp_0 rfl (lv_at hl 0 rfl) ?_
  refine va_get (D := (dC, dI)) (ci := 0) (v := .ref (A 11)) (C := "CentrifugeUnit$Control") (T := xF0) (N := 14) hx hb htt xin0 hown hK hP 0 rfl rfl 2 (by decide) (htt _ tw_233) (fun _ h9 => h9) rfl d_Control_ramp_1 ?_
  refine va_get (D := (dC, dI)) (ci := 7) (v := .int (M.1 6)) (C := "CentrifugeUnit$Sensors") (T := xF7) (N := 6) hx hb htt xin7 hown hK hP 2 rfl rfl 4 (by decide) (htt _ tw_105) (fun _ h9 => h9) rfl d_Control_ramp_4 ?_
  refine lv_istore_n (lv' := [(3, .int (M.1 6)), (0, .ref (A 17)), (1, .int a1), (2, .int a2)]) hx hb d_Control_ramp_7 rfl hl (by decide) rfl (fun ls hl => ?_)
  refine lv_aload_n hx hb d_Control_ramp_8 rfl (lv_at hl 1 rfl) ?_
  refine va_get (D := (dC, dI)) (ci := 0) (v := .ref (A 19)) (C := "CentrifugeUnit$Control") (T := xF0) (N := 14) hx hb htt xin0 hown hK hP 0 rfl rfl 6 (by decide) (htt _ tw_238) (fun _ h9 => h9) rfl d_Control_ramp_9 ?_
  refine va_get (D := (dC, dI)) (ci := 6) (v := .int (M.1 27)) (C := "CentrifugeUnit$Run") (T := xF6) (N := 8) hx hb htt xin6 hown hK hP 1 rfl rfl 6 (by decide) (htt _ tw_210) (fun _ h9 => h9) rfl d_Control_ramp_12 ?_
  refine lv_iconst (v := 1) hx hb d_Control_ramp_15 (by decide) ?_
  refine xj_h (D := (dC, dI)) (cl := xcl) (AA := AA) (H0 := s.heap) 4 27 (fun q9 : Int32 => [(3, .int (M.1 6)), (0, .ref (A 17)), (1, .int a1), (2, .int a2)]) (fun q9 : Int32 => []) (fun q9 : Int32 => [(A 17, .inr (0, [.ref (A 1), .ref (A 6), .ref (A 11), .ref (A 12), .ref (A 13), .ref (A 18), .ref (A 19), .int (M.1 12), .int (M.1 13), .int (M.1 14), .int (M.1 15), .int (M.1 16), .int (M.1 17), .int (M.1 18)])), (A 19, .inr (6, [.long (M.2.1 1), .long (M.2.1 2), .int (M.1 23), .int (M.1 24), .int (M.1 25), .int (M.1 26), .int (M.1 27), .int q9])), (A 11, .inr (7, [.int (M.1 2), .int (M.1 3), .int (M.1 4), .int (M.1 5), .int (M.1 6), .int (M.1 7)]))]) (fun q9 : Int32 => q9 = J_Control_ramp_3 M a1 a2) (fun hJ2 => ?_) (fun H locs ls j1 hP hD hS hl hj1 => ?_)
  · refine lv_icmp_ne (tgt := 27) hx hb d_Control_ramp_16 rfl (fun h13 => ?_) (fun h13 => ?_)
    · exact hJ2 _ _ _ (M.1 28) (hP.sub [0, 1, 2] rfl) (hD.sub [0, 1, 2] (by decide) rfl) hS (lv_sub hl [0, 1, 2, 3] rfl) (by rw [J_Control_ramp_3, if_neg h13])
    · refine lv_aload_n hx hb d_Control_ramp_19 rfl (lv_at hl 1 rfl) ?_
      refine va_get (D := (dC, dI)) (ci := 0) (v := .ref (A 19)) (C := "CentrifugeUnit$Control") (T := xF0) (N := 14) hx hb htt xin0 hown hK hP 0 rfl rfl 6 (by decide) (htt _ tw_238) (fun _ h9 => h9) rfl d_Control_ramp_20 ?_
      refine lv_iload_n hx hb d_Control_ramp_23 rfl (lv_at hl 0 rfl) ?_
      refine va_put (D := (dC, dI)) (ci := 6) (v := .int (M.1 6)) (ty := .int) (C := "CentrifugeUnit$Run") (T := xF6) (N := 8) hx hb htt xin6 xT6 xTo6 xNm6 hown hK hP hD hS 1 rfl rfl 7 (by decide) (htt _ tw_213) (fun _ h9 => h9) rfl (by decide +kernel) rfl rfl (Nat.le_of_ble_eq_true rfl) d_Control_ramp_24 (fun H locs hP hD hS => ?_)
      have hP : va_P (dC, dI) xcl [(A 17, .inr (0, [.ref (A 1), .ref (A 6), .ref (A 11), .ref (A 12), .ref (A 13), .ref (A 18), .ref (A 19), .int (M.1 12), .int (M.1 13), .int (M.1 14), .int (M.1 15), .int (M.1 16), .int (M.1 17), .int (M.1 18)])), (A 19, .inr (6, [.long (M.2.1 1), .long (M.2.1 2), .int (M.1 23), .int (M.1 24), .int (M.1 25), .int (M.1 26), .int (M.1 27), .int (M.1 6)])), (A 11, .inr (7, [.int (M.1 2), .int (M.1 3), .int (M.1 4), .int (M.1 5), .int (M.1 6), .int (M.1 7)]))] H := hP
      have hD : va_D AA [(A 17, .inr (0, [.ref (A 1), .ref (A 6), .ref (A 11), .ref (A 12), .ref (A 13), .ref (A 18), .ref (A 19), .int (M.1 12), .int (M.1 13), .int (M.1 14), .int (M.1 15), .int (M.1 16), .int (M.1 17), .int (M.1 18)])), (A 19, .inr (6, [.long (M.2.1 1), .long (M.2.1 2), .int (M.1 23), .int (M.1 24), .int (M.1 25), .int (M.1 26), .int (M.1 27), .int (M.1 6)])), (A 11, .inr (7, [.int (M.1 2), .int (M.1 3), .int (M.1 4), .int (M.1 5), .int (M.1 6), .int (M.1 7)]))] := hD
      exact hJ2 _ _ _ (M.1 6) (hP.sub [0, 1, 2] rfl) (hD.sub [0, 1, 2] (by decide) rfl) hS (lv_sub hl [0, 1, 2, 3] rfl) (by rw [J_Control_ramp_3, if_pos h13])
  · refine lv_aload_n hx hb d_Control_ramp_27 rfl (lv_at hl 1 rfl) ?_
    refine va_get (D := (dC, dI)) (ci := 0) (v := .ref (A 19)) (C := "CentrifugeUnit$Control") (T := xF0) (N := 14) hx hb htt xin0 hown hK hP 0 rfl rfl 6 (by decide) (htt _ tw_238) (fun _ h9 => h9) rfl d_Control_ramp_28 ?_
    refine lv_iload_n hx hb d_Control_ramp_31 rfl (lv_at hl 2 rfl) ?_
    refine lv_iload_n hx hb d_Control_ramp_32 rfl (lv_at hl 3 rfl) ?_
    have hPc := hP.sub (ws' := [(A 19, xc19 Z A ((va_up M.1 28 j1), M.2))]) [1] rfl
    have hDc := hD.sub (ws' := [(A 19, xc19 Z A ((va_up M.1 28 j1), M.2))]) [1] (by decide) rfl
    refine xk_v (wc := [(A 19, xc19 Z A ((va_up M.1 28 j1), M.2))]) (wr := [(A 17, .inr (0, [.ref (A 1), .ref (A 6), .ref (A 11), .ref (A 12), .ref (A 13), .ref (A 18), .ref (A 19), .int (M.1 12), .int (M.1 13), .int (M.1 14), .int (M.1 15), .int (M.1 16), .int (M.1 17), .int (M.1 18)])), (A 11, .inr (7, [.int (M.1 2), .int (M.1 3), .int (M.1 4), .int (M.1 5), .int (M.1 6), .int (M.1 7)]))]) (va_runV (As := [.int a1, .int a2]) (rest := []) ⟨hx, hb, hml, hown, hts⟩ (c_Run_moveGoal l dC dI Z A _ ((va_up M.1 28 j1), M.2) a1 a2) (cwV 2 hts (xw_V _ tw_677 tw_678 tw_679 tw_11 tw_680) rfl rfl rfl (by decide +kernel) ⟨Nat.le_of_ble_eq_true rfl, Nat.le_of_ble_eq_true rfl⟩) ⟨xB_blind, va_recv (q0 := 1) (ci := 6) hK hP rfl rfl, fun U hU hW => ⟨rfl, xB_at hPc hK hDc hq U hU hW⟩⟩ rfl rfl hl.1 rfl (lv_room (Nat.le_of_ble_eq_true rfl)) d_Control_ramp_33 ⟨Nat.le_of_ble_eq_true rfl, Nat.le_of_ble_eq_true rfl⟩) hP hD hS hA [1] [0, 2] rfl rfl (by decide) (by decide) (fun u5 H locs hu5 hP hD hS => ?_)
    have hP : va_P (dC, dI) xcl [(A 17, .inr (0, [.ref (A 1), .ref (A 6), .ref (A 11), .ref (A 12), .ref (A 13), .ref (A 18), .ref (A 19), .int (M.1 12), .int (M.1 13), .int (M.1 14), .int (M.1 15), .int (M.1 16), .int (M.1 17), .int (M.1 18)])), (A 11, .inr (7, [.int (M.1 2), .int (M.1 3), .int (M.1 4), .int (M.1 5), .int (M.1 6), .int (M.1 7)])), (A 19, .inr (6, [.long (M.2.1 1), .long (M.2.1 2), .int (M.1 23), .int (M.1 24), .int (M.1 25), .int (M.1 26), .int (M.1 27), .int u5]))] H := hP
    have hD : va_D AA [(A 17, .inr (0, [.ref (A 1), .ref (A 6), .ref (A 11), .ref (A 12), .ref (A 13), .ref (A 18), .ref (A 19), .int (M.1 12), .int (M.1 13), .int (M.1 14), .int (M.1 15), .int (M.1 16), .int (M.1 17), .int (M.1 18)])), (A 11, .inr (7, [.int (M.1 2), .int (M.1 3), .int (M.1 4), .int (M.1 5), .int (M.1 6), .int (M.1 7)])), (A 19, .inr (6, [.long (M.2.1 1), .long (M.2.1 2), .int (M.1 23), .int (M.1 24), .int (M.1 25), .int (M.1 26), .int (M.1 27), .int u5]))] := hD
    refine lv_aload_n hx hb d_Control_ramp_36 rfl (lv_at hl 1 rfl) ?_
    have hPc := hP.sub (ws' := [(A 17, xc17 Z A ((va_up M.1 28 u5), M.2)), (A 19, xc19 Z A ((va_up M.1 28 u5), M.2)), (A 11, xc11 Z A ((va_up M.1 28 u5), M.2))]) [0, 2, 1] rfl
    have hDc := hD.sub (ws' := [(A 17, xc17 Z A ((va_up M.1 28 u5), M.2)), (A 19, xc19 Z A ((va_up M.1 28 u5), M.2)), (A 11, xc11 Z A ((va_up M.1 28 u5), M.2))]) [0, 2, 1] (by decide) rfl
    refine xk_v (wc := [(A 17, xc17 Z A ((va_up M.1 28 u5), M.2)), (A 19, xc19 Z A ((va_up M.1 28 u5), M.2)), (A 11, xc11 Z A ((va_up M.1 28 u5), M.2))]) (wr := []) (va_runV (As := []) (rest := []) ⟨hx, hb, hml, hown, hts⟩ (c_Control_keepToGoal l dC dI Z A _ ((va_up M.1 28 u5), M.2)) (cwV 0 hts (xw_V _ tw_683 tw_685 tp_9 tw_9 tw_686) rfl rfl rfl (by decide +kernel) ⟨Nat.le_of_ble_eq_true rfl, Nat.le_of_ble_eq_true rfl⟩) ⟨xB_blind, va_recv (q0 := 0) (ci := 0) hK hP rfl rfl, fun U hU hW => ⟨rfl, xB_at hPc hK hDc hq U hU hW⟩⟩ rfl rfl hl.1 rfl (lv_room (Nat.le_of_ble_eq_true rfl)) d_Control_ramp_37 ⟨Nat.le_of_ble_eq_true rfl, Nat.le_of_ble_eq_true rfl⟩) hP hD hS hA [0, 2, 1] [] rfl rfl (by decide) (by decide) (fun u7 H locs hu7 hP hD hS => ?_)
    have hP : va_P (dC, dI) xcl [(A 17, .inr (0, [.ref (A 1), .ref (A 6), .ref (A 11), .ref (A 12), .ref (A 13), .ref (A 18), .ref (A 19), .int (M.1 12), .int (M.1 13), .int (M.1 14), .int (M.1 15), .int (u7.1), .int (u7.2), .int (M.1 18)])), (A 19, .inr (6, [.long (M.2.1 1), .long (M.2.1 2), .int (M.1 23), .int (M.1 24), .int (M.1 25), .int (M.1 26), .int (M.1 27), .int u5])), (A 11, .inr (7, [.int (M.1 2), .int (M.1 3), .int (M.1 4), .int (M.1 5), .int (M.1 6), .int (M.1 7)]))] H := hP
    have hD : va_D AA [(A 17, .inr (0, [.ref (A 1), .ref (A 6), .ref (A 11), .ref (A 12), .ref (A 13), .ref (A 18), .ref (A 19), .int (M.1 12), .int (M.1 13), .int (M.1 14), .int (M.1 15), .int (u7.1), .int (u7.2), .int (M.1 18)])), (A 19, .inr (6, [.long (M.2.1 1), .long (M.2.1 2), .int (M.1 23), .int (M.1 24), .int (M.1 25), .int (M.1 26), .int (M.1 27), .int u5])), (A 11, .inr (7, [.int (M.1 2), .int (M.1 3), .int (M.1 4), .int (M.1 5), .int (M.1 6), .int (M.1 7)]))] := hD
    refine lv_aload_n hx hb d_Control_ramp_40 rfl (lv_at hl 1 rfl) ?_
    refine va_get (D := (dC, dI)) (ci := 0) (v := .ref (A 19)) (C := "CentrifugeUnit$Control") (T := xF0) (N := 14) hx hb htt xin0 hown hK hP 0 rfl rfl 6 (by decide) (htt _ tw_238) (fun _ h9 => h9) rfl d_Control_ramp_41 ?_
    refine va_get (D := (dC, dI)) (ci := 6) (v := .int u5) (C := "CentrifugeUnit$Run") (T := xF6) (N := 8) hx hb htt xin6 hown hK hP 1 rfl rfl 7 (by decide) (htt _ tw_213) (fun _ h9 => h9) rfl d_Control_ramp_44 ?_
    refine lv_iload_n hx hb d_Control_ramp_47 rfl (lv_at hl 2 rfl) ?_
    refine lv_icmp_ne (tgt := 66) hx hb d_Control_ramp_48 rfl (fun h9 => ?_) (fun h9 => ?_)
    · refine lv_iconst (v := 0) hx hb d_Control_ramp_66 (by decide) ?_
      have hP9 := hP.sub (ws' := [(A 17, xc17 Z A (ap_Control_ramp M (u5, (u7.1), (u7.2)))), (A 19, xc19 Z A (ap_Control_ramp M (u5, (u7.1), (u7.2)))), (A 11, xc11 Z A (ap_Control_ramp M (u5, (u7.1), (u7.2))))]) [0, 1, 2] rfl
      have hD9 := hD.sub (ws' := [(A 17, xc17 Z A (ap_Control_ramp M (u5, (u7.1), (u7.2)))), (A 19, xc19 Z A (ap_Control_ramp M (u5, (u7.1), (u7.2)))), (A 11, xc11 Z A (ap_Control_ramp M (u5, (u7.1), (u7.2))))]) [0, 1, 2] (by decide) rfl
      exact W.zret (ty := .boolean) hx hb hr rfl (fun t ht hW => ⟨⟨0, (u5, (u7.1), (u7.2)), rfl, (by rw [F_Control_ramp, ← hj1, F_Control_ramp_k4, ← hu5, F_Control_ramp_k6, ← hu7, F_Control_ramp_k8, if_neg h9]), xE_at hP9 hK hD9 ht hW⟩, hS.F ht⟩) hS.2.2 d_Control_ramp_67
    · refine lv_iload_n hx hb d_Control_ramp_51 rfl (lv_at hl 0 rfl) ?_
      refine lv_iload_n hx hb d_Control_ramp_52 rfl (lv_at hl 2 rfl) ?_
      refine lv_isub hx hb d_Control_ramp_53 ?_
      refine va_mabs hx hb (hml.trans hl.1.symm) hown (htt _ tw_688) (htt _ tw_689) (htt _ tw_18) (htt _ tw_690) (Nat.le_of_ble_eq_true rfl) (Nat.le_of_ble_eq_true rfl) (Nat.le_of_ble_eq_true rfl) (Nat.le_of_ble_eq_true rfl) d_Control_ramp_54 ?_
      refine lv_topi (fun z10 hz10 => ?_)
      refine lv_bipush (v := 100) hx hb d_Control_ramp_57 (by decide) ?_
      refine lv_icmp_gt (tgt := 66) hx hb d_Control_ramp_59 rfl (fun h12 => ?_) (fun h12 => ?_)
      · refine lv_iconst (v := 0) hx hb d_Control_ramp_66 (by decide) ?_
        have hP9 := hP.sub (ws' := [(A 17, xc17 Z A (ap_Control_ramp M (u5, (u7.1), (u7.2)))), (A 19, xc19 Z A (ap_Control_ramp M (u5, (u7.1), (u7.2)))), (A 11, xc11 Z A (ap_Control_ramp M (u5, (u7.1), (u7.2))))]) [0, 1, 2] rfl
        have hD9 := hD.sub (ws' := [(A 17, xc17 Z A (ap_Control_ramp M (u5, (u7.1), (u7.2)))), (A 19, xc19 Z A (ap_Control_ramp M (u5, (u7.1), (u7.2)))), (A 11, xc11 Z A (ap_Control_ramp M (u5, (u7.1), (u7.2))))]) [0, 1, 2] (by decide) rfl
        exact W.zret (ty := .boolean) hx hb hr rfl (fun t ht hW => ⟨⟨0, (u5, (u7.1), (u7.2)), rfl, (by rw [F_Control_ramp, ← hj1, F_Control_ramp_k4, ← hu5, F_Control_ramp_k6, ← hu7, F_Control_ramp_k8, if_pos h9, ← hz10, F_Control_ramp_k11, if_pos h12]), xE_at hP9 hK hD9 ht hW⟩, hS.F ht⟩) hS.2.2 d_Control_ramp_67
      · refine lv_iconst (v := 1) hx hb d_Control_ramp_62 (by decide) ?_
        refine lv_goto (tgt := 67) hx hb d_Control_ramp_63 rfl ?_
        have hP9 := hP.sub (ws' := [(A 17, xc17 Z A (ap_Control_ramp M (u5, (u7.1), (u7.2)))), (A 19, xc19 Z A (ap_Control_ramp M (u5, (u7.1), (u7.2)))), (A 11, xc11 Z A (ap_Control_ramp M (u5, (u7.1), (u7.2))))]) [0, 1, 2] rfl
        have hD9 := hD.sub (ws' := [(A 17, xc17 Z A (ap_Control_ramp M (u5, (u7.1), (u7.2)))), (A 19, xc19 Z A (ap_Control_ramp M (u5, (u7.1), (u7.2)))), (A 11, xc11 Z A (ap_Control_ramp M (u5, (u7.1), (u7.2))))]) [0, 1, 2] (by decide) rfl
        exact W.zret (ty := .boolean) hx hb hr rfl (fun t ht hW => ⟨⟨1, (u5, (u7.1), (u7.2)), rfl, (by rw [F_Control_ramp, ← hj1, F_Control_ramp_k4, ← hu5, F_Control_ramp_k6, ← hu7, F_Control_ramp_k8, if_pos h9, ← hz10, F_Control_ramp_k11, if_neg h12]), xE_at hP9 hK hD9 ht hW⟩, hS.F ht⟩) hS.2.2 d_Control_ramp_67
end
section
abbrev bc_Control_comeToRest : ByteArray := prog_2_method_18_code
def y_Control_comeToRest : MethodName := ⟨"CentrifugeUnit$Control", "comeToRest", "()V"⟩
theorem d_Control_comeToRest_0 : decode bc_Control_comeToRest 0 = .ok (.aload_n 0, 1) := by decide +kernel
theorem d_Control_comeToRest_1 : decode bc_Control_comeToRest 1 = .ok (.getfield 33, 3) := by decide +kernel
theorem d_Control_comeToRest_4 : decode bc_Control_comeToRest 4 = .ok (.iconst 2, 1) := by decide +kernel
theorem d_Control_comeToRest_5 : decode bc_Control_comeToRest 5 = .ok (.if_icmp .eq 12, 3) := by decide +kernel
theorem d_Control_comeToRest_8 : decode bc_Control_comeToRest 8 = .ok (.aload_n 0, 1) := by decide +kernel
theorem d_Control_comeToRest_9 : decode bc_Control_comeToRest 9 = .ok (.getfield 33, 3) := by decide +kernel
theorem d_Control_comeToRest_12 : decode bc_Control_comeToRest 12 = .ok (.iconst 3, 1) := by decide +kernel
theorem d_Control_comeToRest_13 : decode bc_Control_comeToRest 13 = .ok (.if_icmp .eq 4, 3) := by decide +kernel
theorem d_Control_comeToRest_16 : decode bc_Control_comeToRest 16 = .ok (.return_, 1) := by decide +kernel
theorem d_Control_comeToRest_17 : decode bc_Control_comeToRest 17 = .ok (.aload_n 0, 1) := by decide +kernel
theorem d_Control_comeToRest_18 : decode bc_Control_comeToRest 18 = .ok (.iconst 0, 1) := by decide +kernel
theorem d_Control_comeToRest_19 : decode bc_Control_comeToRest 19 = .ok (.putfield 65, 3) := by decide +kernel
theorem d_Control_comeToRest_22 : decode bc_Control_comeToRest 22 = .ok (.aload_n 0, 1) := by decide +kernel
theorem d_Control_comeToRest_23 : decode bc_Control_comeToRest 23 = .ok (.bipush 9, 2) := by decide +kernel
theorem d_Control_comeToRest_25 : decode bc_Control_comeToRest 25 = .ok (.putfield 68, 3) := by decide +kernel
theorem d_Control_comeToRest_28 : decode bc_Control_comeToRest 28 = .ok (.aload_n 0, 1) := by decide +kernel
theorem d_Control_comeToRest_29 : decode bc_Control_comeToRest 29 = .ok (.getfield 12, 3) := by decide +kernel
theorem d_Control_comeToRest_32 : decode bc_Control_comeToRest 32 = .ok (.invokevirtual 221, 3) := by decide +kernel
theorem d_Control_comeToRest_35 : decode bc_Control_comeToRest 35 = .ok (.ifCond .eq 33, 3) := by decide +kernel
theorem d_Control_comeToRest_38 : decode bc_Control_comeToRest 38 = .ok (.aload_n 0, 1) := by decide +kernel
theorem d_Control_comeToRest_39 : decode bc_Control_comeToRest 39 = .ok (.getfield 55, 3) := by decide +kernel
theorem d_Control_comeToRest_42 : decode bc_Control_comeToRest 42 = .ok (.aload_n 0, 1) := by decide +kernel
theorem d_Control_comeToRest_43 : decode bc_Control_comeToRest 43 = .ok (.getfield 36, 3) := by decide +kernel
theorem d_Control_comeToRest_46 : decode bc_Control_comeToRest 46 = .ok (.aload_n 0, 1) := by decide +kernel
theorem d_Control_comeToRest_47 : decode bc_Control_comeToRest 47 = .ok (.getfield 21, 3) := by decide +kernel
theorem d_Control_comeToRest_50 : decode bc_Control_comeToRest 50 = .ok (.getfield 158, 3) := by decide +kernel
theorem d_Control_comeToRest_53 : decode bc_Control_comeToRest 53 = .ok (.aload_n 0, 1) := by decide +kernel
theorem d_Control_comeToRest_54 : decode bc_Control_comeToRest 54 = .ok (.getfield 21, 3) := by decide +kernel
theorem d_Control_comeToRest_57 : decode bc_Control_comeToRest 57 = .ok (.getfield 121, 3) := by decide +kernel
theorem d_Control_comeToRest_60 : decode bc_Control_comeToRest 60 = .ok (.invokevirtual 224, 3) := by decide +kernel
theorem d_Control_comeToRest_63 : decode bc_Control_comeToRest 63 = .ok (.aload_n 0, 1) := by decide +kernel
theorem d_Control_comeToRest_64 : decode bc_Control_comeToRest 64 = .ok (.iconst 0, 1) := by decide +kernel
theorem d_Control_comeToRest_65 : decode bc_Control_comeToRest 65 = .ok (.putfield 33, 3) := by decide +kernel
theorem d_Control_comeToRest_68 : decode bc_Control_comeToRest 68 = .ok (.return_, 1) := by decide +kernel
abbrev ap_Control_comeToRest (M : XM) (u : (Int32 × Int32 × (Nat → Int32) × (Nat → Int64) × (Nat → Int32) × Int32 × Int32)) : XM := ((va_up (va_up (va_up (va_up M.1 16 (u.1)) 17 (u.2.1)) 11 (u.2.2.2.2.2.1)) 14 (u.2.2.2.2.2.2)), M.2.1, (va_up (va_up M.2.2.1 14 (u.2.2.1)) 16 (u.2.2.2.2.1)), (va_up M.2.2.2 15 (u.2.2.2.1)))
def F_Control_comeToRest_k6 (M : XM) (z2 : Int32) (u5 : ((Nat → Int32) × (Nat → Int64) × (Nat → Int32) × Int32)) : (Int32 × Int32 × (Nat → Int32) × (Nat → Int64) × (Nat → Int32) × Int32 × Int32) := (0, 9, (u5.1), (u5.2.1), (u5.2.2.1), (u5.2.2.2), 0)
def F_Control_comeToRest_k3 (M : XM) (z2 : Int32) : (Int32 × Int32 × (Nat → Int32) × (Nat → Int64) × (Nat → Int32) × Int32 × Int32) := (if z2 = 0 then (0, 9, (M.2.2.1 14), (M.2.2.2 15), (M.2.2.1 16), (M.1 11), (M.1 14)) else (F_Control_comeToRest_k6 M z2 (F_Records_add M (M.1 15) (M.2.1 1) (M.1 25))))
def F_Control_comeToRest_k12 (M : XM) (z8 : Int32) (u11 : ((Nat → Int32) × (Nat → Int64) × (Nat → Int32) × Int32)) : (Int32 × Int32 × (Nat → Int32) × (Nat → Int64) × (Nat → Int32) × Int32 × Int32) := (0, 9, (u11.1), (u11.2.1), (u11.2.2.1), (u11.2.2.2), 0)
def F_Control_comeToRest_k9 (M : XM) (z8 : Int32) : (Int32 × Int32 × (Nat → Int32) × (Nat → Int64) × (Nat → Int32) × Int32 × Int32) := (if z8 = 0 then (0, 9, (M.2.2.1 14), (M.2.2.2 15), (M.2.2.1 16), (M.1 11), (M.1 14)) else (F_Control_comeToRest_k12 M z8 (F_Records_add M (M.1 15) (M.2.1 1) (M.1 25))))
def F_Control_comeToRest (M : XM) : (Int32 × Int32 × (Nat → Int32) × (Nat → Int64) × (Nat → Int32) × Int32 × Int32) := (if (M.1 14) = 2 then (F_Control_comeToRest_k3 M (F_Watch_atRest M)) else (if (M.1 14) = 3 then (F_Control_comeToRest_k9 M (F_Watch_atRest M)) else ((M.1 16), (M.1 17), (M.2.2.1 14), (M.2.2.2 15), (M.2.2.1 16), (M.1 11), (M.1 14))))
set_option maxHeartbeats 4000000 in
set_option maxRecDepth 100000 in
theorem c_Control_comeToRest (l : Launch) (dC : Nat → ClassId) (dI : Nat → Nat → Nat) (Z : Nat → ClassId) (A : Nat → Nat) (sz : Nat) (M : XM) : Met l y_Control_comeToRest (.code y_Control_comeToRest bc_Control_comeToRest 1 none :: xw) ({ frames := 2, cells := 0, slots := 0, locals := 47 }) (va_Pc [.ref (A 17)] (xB (dC, dI) xcl (xty Z) sz [(A 17, xc17 Z A M), (A 18, xc18 Z A M), (A 13, xc13 Z A M), (A 14, xc14 Z A M), (A 15, xc15 Z A M), (A 16, xc16 Z A M), (A 19, xc19 Z A M)])) (va_Qv (fun u : (Int32 × Int32 × (Nat → Int32) × (Nat → Int64) × (Nat → Int32) × Int32 × Int32) => u = F_Control_comeToRest M) (fun u => xE (dC, dI) xcl (xty Z) (va_A [(A 17, xc17 Z A M), (A 18, xc18 Z A M), (A 13, xc13 Z A M), (A 14, xc14 Z A M), (A 15, xc15 Z A M), (A 16, xc16 Z A M), (A 19, xc19 Z A M)] sz) [(A 17, xc17 Z A (ap_Control_comeToRest M u)), (A 18, xc18 Z A (ap_Control_comeToRest M u)), (A 13, xc13 Z A (ap_Control_comeToRest M u)), (A 14, xc14 Z A (ap_Control_comeToRest M u)), (A 15, xc15 Z A (ap_Control_comeToRest M u)), (A 16, xc16 Z A (ap_Control_comeToRest M u)), (A 19, xc19 Z A (ap_Control_comeToRest M u))]) (va_A [(A 17, xc17 Z A M), (A 18, xc18 Z A M), (A 13, xc13 Z A M), (A 14, xc14 Z A M), (A 15, xc15 Z A M), (A 16, xc16 Z A M), (A 19, xc19 Z A M)] sz)) 0 0 (va_A [(A 17, xc17 Z A M), (A 18, xc18 Z A M), (A 13, xc13 Z A M), (A 14, xc14 Z A M), (A 15, xc15 Z A M), (A 16, xc16 Z A M), (A 19, xc19 Z A M)] sz) := by
  refine Met.ofW (cc := bc_Control_comeToRest) (maxL := 1) (ret := none) (by decide) rfl ?_
  intro p e s m args below meth c s₁ B hml hv
  obtain ⟨rfl, hsz, hP, hK, hD0, hq⟩ := hv
  have hx := B.exec
  have hb := B.bytes
  have hr := B.returns
  have hts := atoms_spec (ws := (.code y_Control_comeToRest bc_Control_comeToRest 1 none :: xw)) B.pre
  have htt : ∀ w ∈ xw, w.before _ s = true := fun w h => hts w (List.mem_cons_of_mem _ h)
  have hown : s.vm.findClass "CentrifugeUnit$Control" = some m.cls := findClass_of_methodNamed B.named
  have hlocks := B.notSynchronized
  subst hsz
  have hD := hD0.self (sz := s.heap.size)
  generalize hAe : va_A [(A 17, xc17 Z A M), (A 18, xc18 Z A M), (A 13, xc13 Z A M), (A 14, xc14 Z A M), (A 15, xc15 Z A M), (A 16, xc16 Z A M), (A 19, xc19 Z A M)] s.heap.size = AA at hD ⊢
  have hA : ∀ q : Nat, s.heap.size ≤ q → AA q := fun q h => by rw [← hAe]; exact Or.inr h
  have hS : va_S AA s.heap s.heap [] := va_S.rf
  have hP : va_P (dC, dI) xcl [(A 17, .inr (0, [.ref (A 1), .ref (A 6), .ref (A 11), .ref (A 12), .ref (A 13), .ref (A 18), .ref (A 19), .int (M.1 12), .int (M.1 13), .int (M.1 14), .int (M.1 15), .int (M.1 16), .int (M.1 17), .int (M.1 18)])), (A 18, .inr (8, [.int (M.1 19), .int (M.1 20), .int (M.1 21), .int (M.1 22)])), (A 13, .inr (4, [.ref (A 14), .ref (A 15), .ref (A 16), .int (M.1 11)])), (A 14, .inl (Z 0, 16, .inl (M.2.2.1 14))), (A 15, .inl (Z 1, 16, .inr (.inl (M.2.2.2 15)))), (A 16, .inl (Z 0, 16, .inl (M.2.2.1 16))), (A 19, .inr (6, [.long (M.2.1 1), .long (M.2.1 2), .int (M.1 23), .int (M.1 24), .int (M.1 25), .int (M.1 26), .int (M.1 27), .int (M.1 28)]))] s.heap := hP
  have hD : va_D AA [(A 17, .inr (0, [.ref (A 1), .ref (A 6), .ref (A 11), .ref (A 12), .ref (A 13), .ref (A 18), .ref (A 19), .int (M.1 12), .int (M.1 13), .int (M.1 14), .int (M.1 15), .int (M.1 16), .int (M.1 17), .int (M.1 18)])), (A 18, .inr (8, [.int (M.1 19), .int (M.1 20), .int (M.1 21), .int (M.1 22)])), (A 13, .inr (4, [.ref (A 14), .ref (A 15), .ref (A 16), .int (M.1 11)])), (A 14, .inl (Z 0, 16, .inl (M.2.2.1 14))), (A 15, .inl (Z 1, 16, .inr (.inl (M.2.2.2 15)))), (A 16, .inl (Z 0, 16, .inl (M.2.2.1 16))), (A 19, .inr (6, [.long (M.2.1 1), .long (M.2.1 2), .int (M.1 23), .int (M.1 24), .int (M.1 25), .int (M.1 26), .int (M.1 27), .int (M.1 28)]))] := hD
  have hl := lv_entry ([.ref (A 17)]) (n := 1) (Nat.le_of_ble_eq_true rfl)
  rw [lg_entry_eq]
  generalize (lg_sl ([.ref (A 17)]) ++ List.replicate (1 - (lg_sl ([.ref (A 17)])).length) Slot.unset).toArray = ls at hl ⊢
  have hl : lv_has ls 1 [(0, .ref (A 17))] := hl
  refine lv_aload_n hx hb d_Control_comeToRest_0 rfl (lv_at hl 0 rfl) ?_
  refine va_get (D := (dC, dI)) (ci := 0) (v := .int (M.1 14)) (C := "CentrifugeUnit$Control") (T := xF0) (N := 14) hx hb htt xin0 hown hK hP 0 rfl rfl 9 (by decide) (htt _ tw_244) (fun _ h9 => h9) rfl d_Control_comeToRest_1 ?_
  refine lv_iconst (v := 2) hx hb d_Control_comeToRest_4 (by decide) ?_
  refine lv_icmp_eq (tgt := 17) hx hb d_Control_comeToRest_5 rfl (fun h1 => ?_) (fun h1 => ?_)
  · refine lv_aload_n hx hb d_Control_comeToRest_17 rfl (lv_at hl 0 rfl) ?_
    refine lv_iconst (v := 0) hx hb d_Control_comeToRest_18 (by decide) ?_
    refine va_put (D := (dC, dI)) (ci := 0) (v := .int 0) (ty := .int) (C := "CentrifugeUnit$Control") (T := xF0) (N := 14) hx hb htt xin0 xT0 xTo0 xNm0 hown hK hP hD hS 0 rfl rfl 11 (by decide) (htt _ tw_248) (fun _ h9 => h9) rfl (by decide +kernel) rfl rfl (Nat.le_of_ble_eq_true rfl) d_Control_comeToRest_19 (fun H locs hP hD hS => ?_)
    have hP : va_P (dC, dI) xcl [(A 17, .inr (0, [.ref (A 1), .ref (A 6), .ref (A 11), .ref (A 12), .ref (A 13), .ref (A 18), .ref (A 19), .int (M.1 12), .int (M.1 13), .int (M.1 14), .int (M.1 15), .int 0, .int (M.1 17), .int (M.1 18)])), (A 18, .inr (8, [.int (M.1 19), .int (M.1 20), .int (M.1 21), .int (M.1 22)])), (A 13, .inr (4, [.ref (A 14), .ref (A 15), .ref (A 16), .int (M.1 11)])), (A 14, .inl (Z 0, 16, .inl (M.2.2.1 14))), (A 15, .inl (Z 1, 16, .inr (.inl (M.2.2.2 15)))), (A 16, .inl (Z 0, 16, .inl (M.2.2.1 16))), (A 19, .inr (6, [.long (M.2.1 1), .long (M.2.1 2), .int (M.1 23), .int (M.1 24), .int (M.1 25), .int (M.1 26), .int (M.1 27), .int (M.1 28)]))] H := hP
    have hD : va_D AA [(A 17, .inr (0, [.ref (A 1), .ref (A 6), .ref (A 11), .ref (A 12), .ref (A 13), .ref (A 18), .ref (A 19), .int (M.1 12), .int (M.1 13), .int (M.1 14), .int (M.1 15), .int 0, .int (M.1 17), .int (M.1 18)])), (A 18, .inr (8, [.int (M.1 19), .int (M.1 20), .int (M.1 21), .int (M.1 22)])), (A 13, .inr (4, [.ref (A 14), .ref (A 15), .ref (A 16), .int (M.1 11)])), (A 14, .inl (Z 0, 16, .inl (M.2.2.1 14))), (A 15, .inl (Z 1, 16, .inr (.inl (M.2.2.2 15)))), (A 16, .inl (Z 0, 16, .inl (M.2.2.1 16))), (A 19, .inr (6, [.long (M.2.1 1), .long (M.2.1 2), .int (M.1 23), .int (M.1 24), .int (M.1 25), .int (M.1 26), .int (M.1 27), .int (M.1 28)]))] := hD
    refine lv_aload_n hx hb d_Control_comeToRest_22 rfl (lv_at hl 0 rfl) ?_
    refine lv_bipush (v := 9) hx hb d_Control_comeToRest_23 (by decide) ?_
    refine va_put (D := (dC, dI)) (ci := 0) (v := .int 9) (ty := .int) (C := "CentrifugeUnit$Control") (T := xF0) (N := 14) hx hb htt xin0 xT0 xTo0 xNm0 hown hK hP hD hS 0 rfl rfl 12 (by decide) (htt _ tw_250) (fun _ h9 => h9) rfl (by decide +kernel) rfl rfl (Nat.le_of_ble_eq_true rfl) d_Control_comeToRest_25 (fun H locs hP hD hS => ?_)
    have hP : va_P (dC, dI) xcl [(A 17, .inr (0, [.ref (A 1), .ref (A 6), .ref (A 11), .ref (A 12), .ref (A 13), .ref (A 18), .ref (A 19), .int (M.1 12), .int (M.1 13), .int (M.1 14), .int (M.1 15), .int 0, .int 9, .int (M.1 18)])), (A 18, .inr (8, [.int (M.1 19), .int (M.1 20), .int (M.1 21), .int (M.1 22)])), (A 13, .inr (4, [.ref (A 14), .ref (A 15), .ref (A 16), .int (M.1 11)])), (A 14, .inl (Z 0, 16, .inl (M.2.2.1 14))), (A 15, .inl (Z 1, 16, .inr (.inl (M.2.2.2 15)))), (A 16, .inl (Z 0, 16, .inl (M.2.2.1 16))), (A 19, .inr (6, [.long (M.2.1 1), .long (M.2.1 2), .int (M.1 23), .int (M.1 24), .int (M.1 25), .int (M.1 26), .int (M.1 27), .int (M.1 28)]))] H := hP
    have hD : va_D AA [(A 17, .inr (0, [.ref (A 1), .ref (A 6), .ref (A 11), .ref (A 12), .ref (A 13), .ref (A 18), .ref (A 19), .int (M.1 12), .int (M.1 13), .int (M.1 14), .int (M.1 15), .int 0, .int 9, .int (M.1 18)])), (A 18, .inr (8, [.int (M.1 19), .int (M.1 20), .int (M.1 21), .int (M.1 22)])), (A 13, .inr (4, [.ref (A 14), .ref (A 15), .ref (A 16), .int (M.1 11)])), (A 14, .inl (Z 0, 16, .inl (M.2.2.1 14))), (A 15, .inl (Z 1, 16, .inr (.inl (M.2.2.2 15)))), (A 16, .inl (Z 0, 16, .inl (M.2.2.1 16))), (A 19, .inr (6, [.long (M.2.1 1), .long (M.2.1 2), .int (M.1 23), .int (M.1 24), .int (M.1 25), .int (M.1 26), .int (M.1 27), .int (M.1 28)]))] := hD
    refine lv_aload_n hx hb d_Control_comeToRest_28 rfl (lv_at hl 0 rfl) ?_
    refine va_get (D := (dC, dI)) (ci := 0) (v := .ref (A 18)) (C := "CentrifugeUnit$Control") (T := xF0) (N := 14) hx hb htt xin0 hown hK hP 0 rfl rfl 5 (by decide) (htt _ tw_236) (fun _ h9 => h9) rfl d_Control_comeToRest_29 ?_
    have hPc := hP.sub (ws' := [(A 18, xc18 Z A M)]) [1] rfl
    have hDc := hD.sub (ws' := [(A 18, xc18 Z A M)]) [1] (by decide) rfl
    refine xk_p (va_runV (As := []) (rest := []) ⟨hx, hb, hml, hown, hts⟩ (c_Watch_atRest l dC dI Z A _ M) (cwV 0 hts (xw_V _ tw_705 tw_518 tw_519 tw_10 tw_520) rfl rfl rfl (by decide +kernel) ⟨Nat.le_of_ble_eq_true rfl, Nat.le_of_ble_eq_true rfl⟩) ⟨xB_blind, va_recv (q0 := 1) (ci := 8) hK hP rfl rfl, fun U hU hW => ⟨rfl, xB_at hPc hK hDc hq U hU hW⟩⟩ rfl rfl hl.1 rfl (lv_room (Nat.le_of_ble_eq_true rfl)) d_Control_comeToRest_32 ⟨Nat.le_of_ble_eq_true rfl, Nat.le_of_ble_eq_true rfl⟩) ?_
    refine lv_topi (fun z2 hz2 => ?_)
    refine lv_if_eq (tgt := 68) hx hb d_Control_comeToRest_35 rfl (fun h4 => ?_) (fun h4 => ?_)
    · have hP9 := hP.sub (ws' := [(A 17, xc17 Z A (ap_Control_comeToRest M (0, 9, (M.2.2.1 14), (M.2.2.2 15), (M.2.2.1 16), (M.1 11), (M.1 14)))), (A 18, xc18 Z A (ap_Control_comeToRest M (0, 9, (M.2.2.1 14), (M.2.2.2 15), (M.2.2.1 16), (M.1 11), (M.1 14)))), (A 13, xc13 Z A (ap_Control_comeToRest M (0, 9, (M.2.2.1 14), (M.2.2.2 15), (M.2.2.1 16), (M.1 11), (M.1 14)))), (A 14, xc14 Z A (ap_Control_comeToRest M (0, 9, (M.2.2.1 14), (M.2.2.2 15), (M.2.2.1 16), (M.1 11), (M.1 14)))), (A 15, xc15 Z A (ap_Control_comeToRest M (0, 9, (M.2.2.1 14), (M.2.2.2 15), (M.2.2.1 16), (M.1 11), (M.1 14)))), (A 16, xc16 Z A (ap_Control_comeToRest M (0, 9, (M.2.2.1 14), (M.2.2.2 15), (M.2.2.1 16), (M.1 11), (M.1 14)))), (A 19, xc19 Z A (ap_Control_comeToRest M (0, 9, (M.2.2.1 14), (M.2.2.2 15), (M.2.2.1 16), (M.1 11), (M.1 14))))]) [0, 1, 2, 3, 4, 5, 6] rfl
      have hD9 := hD.sub (ws' := [(A 17, xc17 Z A (ap_Control_comeToRest M (0, 9, (M.2.2.1 14), (M.2.2.2 15), (M.2.2.1 16), (M.1 11), (M.1 14)))), (A 18, xc18 Z A (ap_Control_comeToRest M (0, 9, (M.2.2.1 14), (M.2.2.2 15), (M.2.2.1 16), (M.1 11), (M.1 14)))), (A 13, xc13 Z A (ap_Control_comeToRest M (0, 9, (M.2.2.1 14), (M.2.2.2 15), (M.2.2.1 16), (M.1 11), (M.1 14)))), (A 14, xc14 Z A (ap_Control_comeToRest M (0, 9, (M.2.2.1 14), (M.2.2.2 15), (M.2.2.1 16), (M.1 11), (M.1 14)))), (A 15, xc15 Z A (ap_Control_comeToRest M (0, 9, (M.2.2.1 14), (M.2.2.2 15), (M.2.2.1 16), (M.1 11), (M.1 14)))), (A 16, xc16 Z A (ap_Control_comeToRest M (0, 9, (M.2.2.1 14), (M.2.2.2 15), (M.2.2.1 16), (M.1 11), (M.1 14)))), (A 19, xc19 Z A (ap_Control_comeToRest M (0, 9, (M.2.2.1 14), (M.2.2.2 15), (M.2.2.1 16), (M.1 11), (M.1 14))))]) [0, 1, 2, 3, 4, 5, 6] (by decide) rfl
      exact W.vret hx hb hr (fun t ht hW => ⟨⟨(0, 9, (M.2.2.1 14), (M.2.2.2 15), (M.2.2.1 16), (M.1 11), (M.1 14)), rfl, (by rw [F_Control_comeToRest, if_pos h1, ← hz2, F_Control_comeToRest_k3, if_pos h4]), xE_at hP9 hK hD9 ht hW⟩, hS.F ht⟩) hS.2.2 d_Control_comeToRest_68
    · refine lv_aload_n hx hb d_Control_comeToRest_38 rfl (lv_at hl 0 rfl) ?_
      refine va_get (D := (dC, dI)) (ci := 0) (v := .ref (A 13)) (C := "CentrifugeUnit$Control") (T := xF0) (N := 14) hx hb htt xin0 hown hK hP 0 rfl rfl 4 (by decide) (htt _ tw_235) (fun _ h9 => h9) rfl d_Control_comeToRest_39 ?_
      refine lv_aload_n hx hb d_Control_comeToRest_42 rfl (lv_at hl 0 rfl) ?_
      refine va_get (D := (dC, dI)) (ci := 0) (v := .int (M.1 15)) (C := "CentrifugeUnit$Control") (T := xF0) (N := 14) hx hb htt xin0 hown hK hP 0 rfl rfl 10 (by decide) (htt _ tw_246) (fun _ h9 => h9) rfl d_Control_comeToRest_43 ?_
      refine lv_aload_n hx hb d_Control_comeToRest_46 rfl (lv_at hl 0 rfl) ?_
      refine va_get (D := (dC, dI)) (ci := 0) (v := .ref (A 19)) (C := "CentrifugeUnit$Control") (T := xF0) (N := 14) hx hb htt xin0 hown hK hP 0 rfl rfl 6 (by decide) (htt _ tw_238) (fun _ h9 => h9) rfl d_Control_comeToRest_47 ?_
      refine va_get (D := (dC, dI)) (ci := 6) (v := .long (M.2.1 1)) (C := "CentrifugeUnit$Run") (T := xF6) (N := 8) hx hb htt xin6 hown hK hP 6 rfl rfl 0 (by decide) (htt _ tw_195) (fun _ h9 => h9) rfl d_Control_comeToRest_50 ?_
      refine lv_aload_n hx hb d_Control_comeToRest_53 rfl (lv_at hl 0 rfl) ?_
      refine va_get (D := (dC, dI)) (ci := 0) (v := .ref (A 19)) (C := "CentrifugeUnit$Control") (T := xF0) (N := 14) hx hb htt xin0 hown hK hP 0 rfl rfl 6 (by decide) (htt _ tw_238) (fun _ h9 => h9) rfl d_Control_comeToRest_54 ?_
      refine va_get (D := (dC, dI)) (ci := 6) (v := .int (M.1 25)) (C := "CentrifugeUnit$Run") (T := xF6) (N := 8) hx hb htt xin6 hown hK hP 6 rfl rfl 4 (by decide) (htt _ tw_205) (fun _ h9 => h9) rfl d_Control_comeToRest_57 ?_
      have hPc := hP.sub (ws' := [(A 13, xc13 Z A M), (A 14, xc14 Z A M), (A 15, xc15 Z A M), (A 16, xc16 Z A M)]) [2, 3, 4, 5] rfl
      have hDc := hD.sub (ws' := [(A 13, xc13 Z A M), (A 14, xc14 Z A M), (A 15, xc15 Z A M), (A 16, xc16 Z A M)]) [2, 3, 4, 5] (by decide) rfl
      refine xk_v (wc := [(A 13, xc13 Z A M), (A 14, xc14 Z A M), (A 15, xc15 Z A M), (A 16, xc16 Z A M)]) (wr := [(A 17, .inr (0, [.ref (A 1), .ref (A 6), .ref (A 11), .ref (A 12), .ref (A 13), .ref (A 18), .ref (A 19), .int (M.1 12), .int (M.1 13), .int (M.1 14), .int (M.1 15), .int 0, .int 9, .int (M.1 18)])), (A 18, .inr (8, [.int (M.1 19), .int (M.1 20), .int (M.1 21), .int (M.1 22)])), (A 19, .inr (6, [.long (M.2.1 1), .long (M.2.1 2), .int (M.1 23), .int (M.1 24), .int (M.1 25), .int (M.1 26), .int (M.1 27), .int (M.1 28)]))]) (va_runV (As := [.int (M.1 15), .long (M.2.1 1), .int (M.1 25)]) (rest := []) ⟨hx, hb, hml, hown, hts⟩ (c_Records_add l dC dI Z A _ M (M.1 15) (M.2.1 1) (M.1 25)) (cwV 3 hts (xw_V _ tw_706 tw_707 tw_708 tw_8 tw_709) rfl rfl rfl (by decide +kernel) ⟨Nat.le_of_ble_eq_true rfl, Nat.le_of_ble_eq_true rfl⟩) ⟨xB_blind, va_recv (q0 := 2) (ci := 4) hK hP rfl rfl, fun U hU hW => ⟨rfl, xB_at hPc hK hDc hq U hU hW⟩⟩ rfl rfl hl.1 rfl (lv_room (Nat.le_of_ble_eq_true rfl)) d_Control_comeToRest_60 ⟨Nat.le_of_ble_eq_true rfl, Nat.le_of_ble_eq_true rfl⟩) hP hD hS hA [2, 3, 4, 5] [0, 1, 6] rfl rfl (by decide) (by decide) (fun u5 H locs hu5 hP hD hS => ?_)
      have hP : va_P (dC, dI) xcl [(A 17, .inr (0, [.ref (A 1), .ref (A 6), .ref (A 11), .ref (A 12), .ref (A 13), .ref (A 18), .ref (A 19), .int (M.1 12), .int (M.1 13), .int (M.1 14), .int (M.1 15), .int 0, .int 9, .int (M.1 18)])), (A 18, .inr (8, [.int (M.1 19), .int (M.1 20), .int (M.1 21), .int (M.1 22)])), (A 19, .inr (6, [.long (M.2.1 1), .long (M.2.1 2), .int (M.1 23), .int (M.1 24), .int (M.1 25), .int (M.1 26), .int (M.1 27), .int (M.1 28)])), (A 13, .inr (4, [.ref (A 14), .ref (A 15), .ref (A 16), .int (u5.2.2.2)])), (A 14, .inl (Z 0, 16, .inl (u5.1))), (A 15, .inl (Z 1, 16, .inr (.inl (u5.2.1)))), (A 16, .inl (Z 0, 16, .inl (u5.2.2.1)))] H := hP
      have hD : va_D AA [(A 17, .inr (0, [.ref (A 1), .ref (A 6), .ref (A 11), .ref (A 12), .ref (A 13), .ref (A 18), .ref (A 19), .int (M.1 12), .int (M.1 13), .int (M.1 14), .int (M.1 15), .int 0, .int 9, .int (M.1 18)])), (A 18, .inr (8, [.int (M.1 19), .int (M.1 20), .int (M.1 21), .int (M.1 22)])), (A 19, .inr (6, [.long (M.2.1 1), .long (M.2.1 2), .int (M.1 23), .int (M.1 24), .int (M.1 25), .int (M.1 26), .int (M.1 27), .int (M.1 28)])), (A 13, .inr (4, [.ref (A 14), .ref (A 15), .ref (A 16), .int (u5.2.2.2)])), (A 14, .inl (Z 0, 16, .inl (u5.1))), (A 15, .inl (Z 1, 16, .inr (.inl (u5.2.1)))), (A 16, .inl (Z 0, 16, .inl (u5.2.2.1)))] := hD
      refine lv_aload_n hx hb d_Control_comeToRest_63 rfl (lv_at hl 0 rfl) ?_
      refine lv_iconst (v := 0) hx hb d_Control_comeToRest_64 (by decide) ?_
      refine va_put (D := (dC, dI)) (ci := 0) (v := .int 0) (ty := .int) (C := "CentrifugeUnit$Control") (T := xF0) (N := 14) hx hb htt xin0 xT0 xTo0 xNm0 hown hK hP hD hS 0 rfl rfl 9 (by decide) (htt _ tw_244) (fun _ h9 => h9) rfl (by decide +kernel) rfl rfl (Nat.le_of_ble_eq_true rfl) d_Control_comeToRest_65 (fun H locs hP hD hS => ?_)
      have hP : va_P (dC, dI) xcl [(A 17, .inr (0, [.ref (A 1), .ref (A 6), .ref (A 11), .ref (A 12), .ref (A 13), .ref (A 18), .ref (A 19), .int (M.1 12), .int (M.1 13), .int 0, .int (M.1 15), .int 0, .int 9, .int (M.1 18)])), (A 18, .inr (8, [.int (M.1 19), .int (M.1 20), .int (M.1 21), .int (M.1 22)])), (A 19, .inr (6, [.long (M.2.1 1), .long (M.2.1 2), .int (M.1 23), .int (M.1 24), .int (M.1 25), .int (M.1 26), .int (M.1 27), .int (M.1 28)])), (A 13, .inr (4, [.ref (A 14), .ref (A 15), .ref (A 16), .int (u5.2.2.2)])), (A 14, .inl (Z 0, 16, .inl (u5.1))), (A 15, .inl (Z 1, 16, .inr (.inl (u5.2.1)))), (A 16, .inl (Z 0, 16, .inl (u5.2.2.1)))] H := hP
      have hD : va_D AA [(A 17, .inr (0, [.ref (A 1), .ref (A 6), .ref (A 11), .ref (A 12), .ref (A 13), .ref (A 18), .ref (A 19), .int (M.1 12), .int (M.1 13), .int 0, .int (M.1 15), .int 0, .int 9, .int (M.1 18)])), (A 18, .inr (8, [.int (M.1 19), .int (M.1 20), .int (M.1 21), .int (M.1 22)])), (A 19, .inr (6, [.long (M.2.1 1), .long (M.2.1 2), .int (M.1 23), .int (M.1 24), .int (M.1 25), .int (M.1 26), .int (M.1 27), .int (M.1 28)])), (A 13, .inr (4, [.ref (A 14), .ref (A 15), .ref (A 16), .int (u5.2.2.2)])), (A 14, .inl (Z 0, 16, .inl (u5.1))), (A 15, .inl (Z 1, 16, .inr (.inl (u5.2.1)))), (A 16, .inl (Z 0, 16, .inl (u5.2.2.1)))] := hD
      have hP9 := hP.sub (ws' := [(A 17, xc17 Z A (ap_Control_comeToRest M (0, 9, (u5.1), (u5.2.1), (u5.2.2.1), (u5.2.2.2), 0))), (A 18, xc18 Z A (ap_Control_comeToRest M (0, 9, (u5.1), (u5.2.1), (u5.2.2.1), (u5.2.2.2), 0))), (A 13, xc13 Z A (ap_Control_comeToRest M (0, 9, (u5.1), (u5.2.1), (u5.2.2.1), (u5.2.2.2), 0))), (A 14, xc14 Z A (ap_Control_comeToRest M (0, 9, (u5.1), (u5.2.1), (u5.2.2.1), (u5.2.2.2), 0))), (A 15, xc15 Z A (ap_Control_comeToRest M (0, 9, (u5.1), (u5.2.1), (u5.2.2.1), (u5.2.2.2), 0))), (A 16, xc16 Z A (ap_Control_comeToRest M (0, 9, (u5.1), (u5.2.1), (u5.2.2.1), (u5.2.2.2), 0))), (A 19, xc19 Z A (ap_Control_comeToRest M (0, 9, (u5.1), (u5.2.1), (u5.2.2.1), (u5.2.2.2), 0)))]) [0, 1, 3, 4, 5, 6, 2] rfl
      have hD9 := hD.sub (ws' := [(A 17, xc17 Z A (ap_Control_comeToRest M (0, 9, (u5.1), (u5.2.1), (u5.2.2.1), (u5.2.2.2), 0))), (A 18, xc18 Z A (ap_Control_comeToRest M (0, 9, (u5.1), (u5.2.1), (u5.2.2.1), (u5.2.2.2), 0))), (A 13, xc13 Z A (ap_Control_comeToRest M (0, 9, (u5.1), (u5.2.1), (u5.2.2.1), (u5.2.2.2), 0))), (A 14, xc14 Z A (ap_Control_comeToRest M (0, 9, (u5.1), (u5.2.1), (u5.2.2.1), (u5.2.2.2), 0))), (A 15, xc15 Z A (ap_Control_comeToRest M (0, 9, (u5.1), (u5.2.1), (u5.2.2.1), (u5.2.2.2), 0))), (A 16, xc16 Z A (ap_Control_comeToRest M (0, 9, (u5.1), (u5.2.1), (u5.2.2.1), (u5.2.2.2), 0))), (A 19, xc19 Z A (ap_Control_comeToRest M (0, 9, (u5.1), (u5.2.1), (u5.2.2.1), (u5.2.2.2), 0)))]) [0, 1, 3, 4, 5, 6, 2] (by decide) rfl
      exact W.vret hx hb hr (fun t ht hW => ⟨⟨(0, 9, (u5.1), (u5.2.1), (u5.2.2.1), (u5.2.2.2), 0), rfl, (by rw [F_Control_comeToRest, if_pos h1, ← hz2, F_Control_comeToRest_k3, if_neg h4, ← hu5, F_Control_comeToRest_k6]), xE_at hP9 hK hD9 ht hW⟩, hS.F ht⟩) hS.2.2 d_Control_comeToRest_68
  · refine lv_aload_n hx hb d_Control_comeToRest_8 rfl (lv_at hl 0 rfl) ?_
    refine va_get (D := (dC, dI)) (ci := 0) (v := .int (M.1 14)) (C := "CentrifugeUnit$Control") (T := xF0) (N := 14) hx hb htt xin0 hown hK hP 0 rfl rfl 9 (by decide) (htt _ tw_244) (fun _ h9 => h9) rfl d_Control_comeToRest_9 ?_
    refine lv_iconst (v := 3) hx hb d_Control_comeToRest_12 (by decide) ?_
    refine lv_icmp_eq (tgt := 17) hx hb d_Control_comeToRest_13 rfl (fun h7 => ?_) (fun h7 => ?_)
    · refine lv_aload_n hx hb d_Control_comeToRest_17 rfl (lv_at hl 0 rfl) ?_
      refine lv_iconst (v := 0) hx hb d_Control_comeToRest_18 (by decide) ?_
      refine va_put (D := (dC, dI)) (ci := 0) (v := .int 0) (ty := .int) (C := "CentrifugeUnit$Control") (T := xF0) (N := 14) hx hb htt xin0 xT0 xTo0 xNm0 hown hK hP hD hS 0 rfl rfl 11 (by decide) (htt _ tw_248) (fun _ h9 => h9) rfl (by decide +kernel) rfl rfl (Nat.le_of_ble_eq_true rfl) d_Control_comeToRest_19 (fun H locs hP hD hS => ?_)
      have hP : va_P (dC, dI) xcl [(A 17, .inr (0, [.ref (A 1), .ref (A 6), .ref (A 11), .ref (A 12), .ref (A 13), .ref (A 18), .ref (A 19), .int (M.1 12), .int (M.1 13), .int (M.1 14), .int (M.1 15), .int 0, .int (M.1 17), .int (M.1 18)])), (A 18, .inr (8, [.int (M.1 19), .int (M.1 20), .int (M.1 21), .int (M.1 22)])), (A 13, .inr (4, [.ref (A 14), .ref (A 15), .ref (A 16), .int (M.1 11)])), (A 14, .inl (Z 0, 16, .inl (M.2.2.1 14))), (A 15, .inl (Z 1, 16, .inr (.inl (M.2.2.2 15)))), (A 16, .inl (Z 0, 16, .inl (M.2.2.1 16))), (A 19, .inr (6, [.long (M.2.1 1), .long (M.2.1 2), .int (M.1 23), .int (M.1 24), .int (M.1 25), .int (M.1 26), .int (M.1 27), .int (M.1 28)]))] H := hP
      have hD : va_D AA [(A 17, .inr (0, [.ref (A 1), .ref (A 6), .ref (A 11), .ref (A 12), .ref (A 13), .ref (A 18), .ref (A 19), .int (M.1 12), .int (M.1 13), .int (M.1 14), .int (M.1 15), .int 0, .int (M.1 17), .int (M.1 18)])), (A 18, .inr (8, [.int (M.1 19), .int (M.1 20), .int (M.1 21), .int (M.1 22)])), (A 13, .inr (4, [.ref (A 14), .ref (A 15), .ref (A 16), .int (M.1 11)])), (A 14, .inl (Z 0, 16, .inl (M.2.2.1 14))), (A 15, .inl (Z 1, 16, .inr (.inl (M.2.2.2 15)))), (A 16, .inl (Z 0, 16, .inl (M.2.2.1 16))), (A 19, .inr (6, [.long (M.2.1 1), .long (M.2.1 2), .int (M.1 23), .int (M.1 24), .int (M.1 25), .int (M.1 26), .int (M.1 27), .int (M.1 28)]))] := hD
      refine lv_aload_n hx hb d_Control_comeToRest_22 rfl (lv_at hl 0 rfl) ?_
      refine lv_bipush (v := 9) hx hb d_Control_comeToRest_23 (by decide) ?_
      refine va_put (D := (dC, dI)) (ci := 0) (v := .int 9) (ty := .int) (C := "CentrifugeUnit$Control") (T := xF0) (N := 14) hx hb htt xin0 xT0 xTo0 xNm0 hown hK hP hD hS 0 rfl rfl 12 (by decide) (htt _ tw_250) (fun _ h9 => h9) rfl (by decide +kernel) rfl rfl (Nat.le_of_ble_eq_true rfl) d_Control_comeToRest_25 (fun H locs hP hD hS => ?_)
      have hP : va_P (dC, dI) xcl [(A 17, .inr (0, [.ref (A 1), .ref (A 6), .ref (A 11), .ref (A 12), .ref (A 13), .ref (A 18), .ref (A 19), .int (M.1 12), .int (M.1 13), .int (M.1 14), .int (M.1 15), .int 0, .int 9, .int (M.1 18)])), (A 18, .inr (8, [.int (M.1 19), .int (M.1 20), .int (M.1 21), .int (M.1 22)])), (A 13, .inr (4, [.ref (A 14), .ref (A 15), .ref (A 16), .int (M.1 11)])), (A 14, .inl (Z 0, 16, .inl (M.2.2.1 14))), (A 15, .inl (Z 1, 16, .inr (.inl (M.2.2.2 15)))), (A 16, .inl (Z 0, 16, .inl (M.2.2.1 16))), (A 19, .inr (6, [.long (M.2.1 1), .long (M.2.1 2), .int (M.1 23), .int (M.1 24), .int (M.1 25), .int (M.1 26), .int (M.1 27), .int (M.1 28)]))] H := hP
      have hD : va_D AA [(A 17, .inr (0, [.ref (A 1), .ref (A 6), .ref (A 11), .ref (A 12), .ref (A 13), .ref (A 18), .ref (A 19), .int (M.1 12), .int (M.1 13), .int (M.1 14), .int (M.1 15), .int 0, .int 9, .int (M.1 18)])), (A 18, .inr (8, [.int (M.1 19), .int (M.1 20), .int (M.1 21), .int (M.1 22)])), (A 13, .inr (4, [.ref (A 14), .ref (A 15), .ref (A 16), .int (M.1 11)])), (A 14, .inl (Z 0, 16, .inl (M.2.2.1 14))), (A 15, .inl (Z 1, 16, .inr (.inl (M.2.2.2 15)))), (A 16, .inl (Z 0, 16, .inl (M.2.2.1 16))), (A 19, .inr (6, [.long (M.2.1 1), .long (M.2.1 2), .int (M.1 23), .int (M.1 24), .int (M.1 25), .int (M.1 26), .int (M.1 27), .int (M.1 28)]))] := hD
      refine lv_aload_n hx hb d_Control_comeToRest_28 rfl (lv_at hl 0 rfl) ?_
      refine va_get (D := (dC, dI)) (ci := 0) (v := .ref (A 18)) (C := "CentrifugeUnit$Control") (T := xF0) (N := 14) hx hb htt xin0 hown hK hP 0 rfl rfl 5 (by decide) (htt _ tw_236) (fun _ h9 => h9) rfl d_Control_comeToRest_29 ?_
      have hPc := hP.sub (ws' := [(A 18, xc18 Z A M)]) [1] rfl
      have hDc := hD.sub (ws' := [(A 18, xc18 Z A M)]) [1] (by decide) rfl
      refine xk_p (va_runV (As := []) (rest := []) ⟨hx, hb, hml, hown, hts⟩ (c_Watch_atRest l dC dI Z A _ M) (cwV 0 hts (xw_V _ tw_705 tw_518 tw_519 tw_10 tw_520) rfl rfl rfl (by decide +kernel) ⟨Nat.le_of_ble_eq_true rfl, Nat.le_of_ble_eq_true rfl⟩) ⟨xB_blind, va_recv (q0 := 1) (ci := 8) hK hP rfl rfl, fun U hU hW => ⟨rfl, xB_at hPc hK hDc hq U hU hW⟩⟩ rfl rfl hl.1 rfl (lv_room (Nat.le_of_ble_eq_true rfl)) d_Control_comeToRest_32 ⟨Nat.le_of_ble_eq_true rfl, Nat.le_of_ble_eq_true rfl⟩) ?_
      refine lv_topi (fun z8 hz8 => ?_)
      refine lv_if_eq (tgt := 68) hx hb d_Control_comeToRest_35 rfl (fun h10 => ?_) (fun h10 => ?_)
      · have hP9 := hP.sub (ws' := [(A 17, xc17 Z A (ap_Control_comeToRest M (0, 9, (M.2.2.1 14), (M.2.2.2 15), (M.2.2.1 16), (M.1 11), (M.1 14)))), (A 18, xc18 Z A (ap_Control_comeToRest M (0, 9, (M.2.2.1 14), (M.2.2.2 15), (M.2.2.1 16), (M.1 11), (M.1 14)))), (A 13, xc13 Z A (ap_Control_comeToRest M (0, 9, (M.2.2.1 14), (M.2.2.2 15), (M.2.2.1 16), (M.1 11), (M.1 14)))), (A 14, xc14 Z A (ap_Control_comeToRest M (0, 9, (M.2.2.1 14), (M.2.2.2 15), (M.2.2.1 16), (M.1 11), (M.1 14)))), (A 15, xc15 Z A (ap_Control_comeToRest M (0, 9, (M.2.2.1 14), (M.2.2.2 15), (M.2.2.1 16), (M.1 11), (M.1 14)))), (A 16, xc16 Z A (ap_Control_comeToRest M (0, 9, (M.2.2.1 14), (M.2.2.2 15), (M.2.2.1 16), (M.1 11), (M.1 14)))), (A 19, xc19 Z A (ap_Control_comeToRest M (0, 9, (M.2.2.1 14), (M.2.2.2 15), (M.2.2.1 16), (M.1 11), (M.1 14))))]) [0, 1, 2, 3, 4, 5, 6] rfl
        have hD9 := hD.sub (ws' := [(A 17, xc17 Z A (ap_Control_comeToRest M (0, 9, (M.2.2.1 14), (M.2.2.2 15), (M.2.2.1 16), (M.1 11), (M.1 14)))), (A 18, xc18 Z A (ap_Control_comeToRest M (0, 9, (M.2.2.1 14), (M.2.2.2 15), (M.2.2.1 16), (M.1 11), (M.1 14)))), (A 13, xc13 Z A (ap_Control_comeToRest M (0, 9, (M.2.2.1 14), (M.2.2.2 15), (M.2.2.1 16), (M.1 11), (M.1 14)))), (A 14, xc14 Z A (ap_Control_comeToRest M (0, 9, (M.2.2.1 14), (M.2.2.2 15), (M.2.2.1 16), (M.1 11), (M.1 14)))), (A 15, xc15 Z A (ap_Control_comeToRest M (0, 9, (M.2.2.1 14), (M.2.2.2 15), (M.2.2.1 16), (M.1 11), (M.1 14)))), (A 16, xc16 Z A (ap_Control_comeToRest M (0, 9, (M.2.2.1 14), (M.2.2.2 15), (M.2.2.1 16), (M.1 11), (M.1 14)))), (A 19, xc19 Z A (ap_Control_comeToRest M (0, 9, (M.2.2.1 14), (M.2.2.2 15), (M.2.2.1 16), (M.1 11), (M.1 14))))]) [0, 1, 2, 3, 4, 5, 6] (by decide) rfl
        exact W.vret hx hb hr (fun t ht hW => ⟨⟨(0, 9, (M.2.2.1 14), (M.2.2.2 15), (M.2.2.1 16), (M.1 11), (M.1 14)), rfl, (by rw [F_Control_comeToRest, if_neg h1, if_pos h7, ← hz8, F_Control_comeToRest_k9, if_pos h10]), xE_at hP9 hK hD9 ht hW⟩, hS.F ht⟩) hS.2.2 d_Control_comeToRest_68
      · refine lv_aload_n hx hb d_Control_comeToRest_38 rfl (lv_at hl 0 rfl) ?_
        refine va_get (D := (dC, dI)) (ci := 0) (v := .ref (A 13)) (C := "CentrifugeUnit$Control") (T := xF0) (N := 14) hx hb htt xin0 hown hK hP 0 rfl rfl 4 (by decide) (htt _ tw_235) (fun _ h9 => h9) rfl d_Control_comeToRest_39 ?_
        refine lv_aload_n hx hb d_Control_comeToRest_42 rfl (lv_at hl 0 rfl) ?_
        refine va_get (D := (dC, dI)) (ci := 0) (v := .int (M.1 15)) (C := "CentrifugeUnit$Control") (T := xF0) (N := 14) hx hb htt xin0 hown hK hP 0 rfl rfl 10 (by decide) (htt _ tw_246) (fun _ h9 => h9) rfl d_Control_comeToRest_43 ?_
        refine lv_aload_n hx hb d_Control_comeToRest_46 rfl (lv_at hl 0 rfl) ?_
        refine va_get (D := (dC, dI)) (ci := 0) (v := .ref (A 19)) (C := "CentrifugeUnit$Control") (T := xF0) (N := 14) hx hb htt xin0 hown hK hP 0 rfl rfl 6 (by decide) (htt _ tw_238) (fun _ h9 => h9) rfl d_Control_comeToRest_47 ?_
        refine va_get (D := (dC, dI)) (ci := 6) (v := .long (M.2.1 1)) (C := "CentrifugeUnit$Run") (T := xF6) (N := 8) hx hb htt xin6 hown hK hP 6 rfl rfl 0 (by decide) (htt _ tw_195) (fun _ h9 => h9) rfl d_Control_comeToRest_50 ?_
        refine lv_aload_n hx hb d_Control_comeToRest_53 rfl (lv_at hl 0 rfl) ?_
        refine va_get (D := (dC, dI)) (ci := 0) (v := .ref (A 19)) (C := "CentrifugeUnit$Control") (T := xF0) (N := 14) hx hb htt xin0 hown hK hP 0 rfl rfl 6 (by decide) (htt _ tw_238) (fun _ h9 => h9) rfl d_Control_comeToRest_54 ?_
        refine va_get (D := (dC, dI)) (ci := 6) (v := .int (M.1 25)) (C := "CentrifugeUnit$Run") (T := xF6) (N := 8) hx hb htt xin6 hown hK hP 6 rfl rfl 4 (by decide) (htt _ tw_205) (fun _ h9 => h9) rfl d_Control_comeToRest_57 ?_
        have hPc := hP.sub (ws' := [(A 13, xc13 Z A M), (A 14, xc14 Z A M), (A 15, xc15 Z A M), (A 16, xc16 Z A M)]) [2, 3, 4, 5] rfl
        have hDc := hD.sub (ws' := [(A 13, xc13 Z A M), (A 14, xc14 Z A M), (A 15, xc15 Z A M), (A 16, xc16 Z A M)]) [2, 3, 4, 5] (by decide) rfl
        refine xk_v (wc := [(A 13, xc13 Z A M), (A 14, xc14 Z A M), (A 15, xc15 Z A M), (A 16, xc16 Z A M)]) (wr := [(A 17, .inr (0, [.ref (A 1), .ref (A 6), .ref (A 11), .ref (A 12), .ref (A 13), .ref (A 18), .ref (A 19), .int (M.1 12), .int (M.1 13), .int (M.1 14), .int (M.1 15), .int 0, .int 9, .int (M.1 18)])), (A 18, .inr (8, [.int (M.1 19), .int (M.1 20), .int (M.1 21), .int (M.1 22)])), (A 19, .inr (6, [.long (M.2.1 1), .long (M.2.1 2), .int (M.1 23), .int (M.1 24), .int (M.1 25), .int (M.1 26), .int (M.1 27), .int (M.1 28)]))]) (va_runV (As := [.int (M.1 15), .long (M.2.1 1), .int (M.1 25)]) (rest := []) ⟨hx, hb, hml, hown, hts⟩ (c_Records_add l dC dI Z A _ M (M.1 15) (M.2.1 1) (M.1 25)) (cwV 3 hts (xw_V _ tw_706 tw_707 tw_708 tw_8 tw_709) rfl rfl rfl (by decide +kernel) ⟨Nat.le_of_ble_eq_true rfl, Nat.le_of_ble_eq_true rfl⟩) ⟨xB_blind, va_recv (q0 := 2) (ci := 4) hK hP rfl rfl, fun U hU hW => ⟨rfl, xB_at hPc hK hDc hq U hU hW⟩⟩ rfl rfl hl.1 rfl (lv_room (Nat.le_of_ble_eq_true rfl)) d_Control_comeToRest_60 ⟨Nat.le_of_ble_eq_true rfl, Nat.le_of_ble_eq_true rfl⟩) hP hD hS hA [2, 3, 4, 5] [0, 1, 6] rfl rfl (by decide) (by decide) (fun u11 H locs hu11 hP hD hS => ?_)
        have hP : va_P (dC, dI) xcl [(A 17, .inr (0, [.ref (A 1), .ref (A 6), .ref (A 11), .ref (A 12), .ref (A 13), .ref (A 18), .ref (A 19), .int (M.1 12), .int (M.1 13), .int (M.1 14), .int (M.1 15), .int 0, .int 9, .int (M.1 18)])), (A 18, .inr (8, [.int (M.1 19), .int (M.1 20), .int (M.1 21), .int (M.1 22)])), (A 19, .inr (6, [.long (M.2.1 1), .long (M.2.1 2), .int (M.1 23), .int (M.1 24), .int (M.1 25), .int (M.1 26), .int (M.1 27), .int (M.1 28)])), (A 13, .inr (4, [.ref (A 14), .ref (A 15), .ref (A 16), .int (u11.2.2.2)])), (A 14, .inl (Z 0, 16, .inl (u11.1))), (A 15, .inl (Z 1, 16, .inr (.inl (u11.2.1)))), (A 16, .inl (Z 0, 16, .inl (u11.2.2.1)))] H := hP
        have hD : va_D AA [(A 17, .inr (0, [.ref (A 1), .ref (A 6), .ref (A 11), .ref (A 12), .ref (A 13), .ref (A 18), .ref (A 19), .int (M.1 12), .int (M.1 13), .int (M.1 14), .int (M.1 15), .int 0, .int 9, .int (M.1 18)])), (A 18, .inr (8, [.int (M.1 19), .int (M.1 20), .int (M.1 21), .int (M.1 22)])), (A 19, .inr (6, [.long (M.2.1 1), .long (M.2.1 2), .int (M.1 23), .int (M.1 24), .int (M.1 25), .int (M.1 26), .int (M.1 27), .int (M.1 28)])), (A 13, .inr (4, [.ref (A 14), .ref (A 15), .ref (A 16), .int (u11.2.2.2)])), (A 14, .inl (Z 0, 16, .inl (u11.1))), (A 15, .inl (Z 1, 16, .inr (.inl (u11.2.1)))), (A 16, .inl (Z 0, 16, .inl (u11.2.2.1)))] := hD
        refine lv_aload_n hx hb d_Control_comeToRest_63 rfl (lv_at hl 0 rfl) ?_
        refine lv_iconst (v := 0) hx hb d_Control_comeToRest_64 (by decide) ?_
        refine va_put (D := (dC, dI)) (ci := 0) (v := .int 0) (ty := .int) (C := "CentrifugeUnit$Control") (T := xF0) (N := 14) hx hb htt xin0 xT0 xTo0 xNm0 hown hK hP hD hS 0 rfl rfl 9 (by decide) (htt _ tw_244) (fun _ h9 => h9) rfl (by decide +kernel) rfl rfl (Nat.le_of_ble_eq_true rfl) d_Control_comeToRest_65 (fun H locs hP hD hS => ?_)
        have hP : va_P (dC, dI) xcl [(A 17, .inr (0, [.ref (A 1), .ref (A 6), .ref (A 11), .ref (A 12), .ref (A 13), .ref (A 18), .ref (A 19), .int (M.1 12), .int (M.1 13), .int 0, .int (M.1 15), .int 0, .int 9, .int (M.1 18)])), (A 18, .inr (8, [.int (M.1 19), .int (M.1 20), .int (M.1 21), .int (M.1 22)])), (A 19, .inr (6, [.long (M.2.1 1), .long (M.2.1 2), .int (M.1 23), .int (M.1 24), .int (M.1 25), .int (M.1 26), .int (M.1 27), .int (M.1 28)])), (A 13, .inr (4, [.ref (A 14), .ref (A 15), .ref (A 16), .int (u11.2.2.2)])), (A 14, .inl (Z 0, 16, .inl (u11.1))), (A 15, .inl (Z 1, 16, .inr (.inl (u11.2.1)))), (A 16, .inl (Z 0, 16, .inl (u11.2.2.1)))] H := hP
        have hD : va_D AA [(A 17, .inr (0, [.ref (A 1), .ref (A 6), .ref (A 11), .ref (A 12), .ref (A 13), .ref (A 18), .ref (A 19), .int (M.1 12), .int (M.1 13), .int 0, .int (M.1 15), .int 0, .int 9, .int (M.1 18)])), (A 18, .inr (8, [.int (M.1 19), .int (M.1 20), .int (M.1 21), .int (M.1 22)])), (A 19, .inr (6, [.long (M.2.1 1), .long (M.2.1 2), .int (M.1 23), .int (M.1 24), .int (M.1 25), .int (M.1 26), .int (M.1 27), .int (M.1 28)])), (A 13, .inr (4, [.ref (A 14), .ref (A 15), .ref (A 16), .int (u11.2.2.2)])), (A 14, .inl (Z 0, 16, .inl (u11.1))), (A 15, .inl (Z 1, 16, .inr (.inl (u11.2.1)))), (A 16, .inl (Z 0, 16, .inl (u11.2.2.1)))] := hD
        have hP9 := hP.sub (ws' := [(A 17, xc17 Z A (ap_Control_comeToRest M (0, 9, (u11.1), (u11.2.1), (u11.2.2.1), (u11.2.2.2), 0))), (A 18, xc18 Z A (ap_Control_comeToRest M (0, 9, (u11.1), (u11.2.1), (u11.2.2.1), (u11.2.2.2), 0))), (A 13, xc13 Z A (ap_Control_comeToRest M (0, 9, (u11.1), (u11.2.1), (u11.2.2.1), (u11.2.2.2), 0))), (A 14, xc14 Z A (ap_Control_comeToRest M (0, 9, (u11.1), (u11.2.1), (u11.2.2.1), (u11.2.2.2), 0))), (A 15, xc15 Z A (ap_Control_comeToRest M (0, 9, (u11.1), (u11.2.1), (u11.2.2.1), (u11.2.2.2), 0))), (A 16, xc16 Z A (ap_Control_comeToRest M (0, 9, (u11.1), (u11.2.1), (u11.2.2.1), (u11.2.2.2), 0))), (A 19, xc19 Z A (ap_Control_comeToRest M (0, 9, (u11.1), (u11.2.1), (u11.2.2.1), (u11.2.2.2), 0)))]) [0, 1, 3, 4, 5, 6, 2] rfl
        have hD9 := hD.sub (ws' := [(A 17, xc17 Z A (ap_Control_comeToRest M (0, 9, (u11.1), (u11.2.1), (u11.2.2.1), (u11.2.2.2), 0))), (A 18, xc18 Z A (ap_Control_comeToRest M (0, 9, (u11.1), (u11.2.1), (u11.2.2.1), (u11.2.2.2), 0))), (A 13, xc13 Z A (ap_Control_comeToRest M (0, 9, (u11.1), (u11.2.1), (u11.2.2.1), (u11.2.2.2), 0))), (A 14, xc14 Z A (ap_Control_comeToRest M (0, 9, (u11.1), (u11.2.1), (u11.2.2.1), (u11.2.2.2), 0))), (A 15, xc15 Z A (ap_Control_comeToRest M (0, 9, (u11.1), (u11.2.1), (u11.2.2.1), (u11.2.2.2), 0))), (A 16, xc16 Z A (ap_Control_comeToRest M (0, 9, (u11.1), (u11.2.1), (u11.2.2.1), (u11.2.2.2), 0))), (A 19, xc19 Z A (ap_Control_comeToRest M (0, 9, (u11.1), (u11.2.1), (u11.2.2.1), (u11.2.2.2), 0)))]) [0, 1, 3, 4, 5, 6, 2] (by decide) rfl
        exact W.vret hx hb hr (fun t ht hW => ⟨⟨(0, 9, (u11.1), (u11.2.1), (u11.2.2.1), (u11.2.2.2), 0), rfl, (by rw [F_Control_comeToRest, if_neg h1, if_pos h7, ← hz8, F_Control_comeToRest_k9, if_neg h10, ← hu11, F_Control_comeToRest_k12]), xE_at hP9 hK hD9 ht hW⟩, hS.F ht⟩) hS.2.2 d_Control_comeToRest_68
    · have hP9 := hP.sub (ws' := [(A 17, xc17 Z A (ap_Control_comeToRest M ((M.1 16), (M.1 17), (M.2.2.1 14), (M.2.2.2 15), (M.2.2.1 16), (M.1 11), (M.1 14)))), (A 18, xc18 Z A (ap_Control_comeToRest M ((M.1 16), (M.1 17), (M.2.2.1 14), (M.2.2.2 15), (M.2.2.1 16), (M.1 11), (M.1 14)))), (A 13, xc13 Z A (ap_Control_comeToRest M ((M.1 16), (M.1 17), (M.2.2.1 14), (M.2.2.2 15), (M.2.2.1 16), (M.1 11), (M.1 14)))), (A 14, xc14 Z A (ap_Control_comeToRest M ((M.1 16), (M.1 17), (M.2.2.1 14), (M.2.2.2 15), (M.2.2.1 16), (M.1 11), (M.1 14)))), (A 15, xc15 Z A (ap_Control_comeToRest M ((M.1 16), (M.1 17), (M.2.2.1 14), (M.2.2.2 15), (M.2.2.1 16), (M.1 11), (M.1 14)))), (A 16, xc16 Z A (ap_Control_comeToRest M ((M.1 16), (M.1 17), (M.2.2.1 14), (M.2.2.2 15), (M.2.2.1 16), (M.1 11), (M.1 14)))), (A 19, xc19 Z A (ap_Control_comeToRest M ((M.1 16), (M.1 17), (M.2.2.1 14), (M.2.2.2 15), (M.2.2.1 16), (M.1 11), (M.1 14))))]) [0, 1, 2, 3, 4, 5, 6] rfl
      have hD9 := hD.sub (ws' := [(A 17, xc17 Z A (ap_Control_comeToRest M ((M.1 16), (M.1 17), (M.2.2.1 14), (M.2.2.2 15), (M.2.2.1 16), (M.1 11), (M.1 14)))), (A 18, xc18 Z A (ap_Control_comeToRest M ((M.1 16), (M.1 17), (M.2.2.1 14), (M.2.2.2 15), (M.2.2.1 16), (M.1 11), (M.1 14)))), (A 13, xc13 Z A (ap_Control_comeToRest M ((M.1 16), (M.1 17), (M.2.2.1 14), (M.2.2.2 15), (M.2.2.1 16), (M.1 11), (M.1 14)))), (A 14, xc14 Z A (ap_Control_comeToRest M ((M.1 16), (M.1 17), (M.2.2.1 14), (M.2.2.2 15), (M.2.2.1 16), (M.1 11), (M.1 14)))), (A 15, xc15 Z A (ap_Control_comeToRest M ((M.1 16), (M.1 17), (M.2.2.1 14), (M.2.2.2 15), (M.2.2.1 16), (M.1 11), (M.1 14)))), (A 16, xc16 Z A (ap_Control_comeToRest M ((M.1 16), (M.1 17), (M.2.2.1 14), (M.2.2.2 15), (M.2.2.1 16), (M.1 11), (M.1 14)))), (A 19, xc19 Z A (ap_Control_comeToRest M ((M.1 16), (M.1 17), (M.2.2.1 14), (M.2.2.2 15), (M.2.2.1 16), (M.1 11), (M.1 14))))]) [0, 1, 2, 3, 4, 5, 6] (by decide) rfl
      exact W.vret hx hb hr (fun t ht hW => ⟨⟨((M.1 16), (M.1 17), (M.2.2.1 14), (M.2.2.2 15), (M.2.2.1 16), (M.1 11), (M.1 14)), rfl, (by rw [F_Control_comeToRest, if_neg h1, if_neg h7]), xE_at hP9 hK hD9 ht hW⟩, hS.F ht⟩) hS.2.2 d_Control_comeToRest_16
abbrev bc_Control_segmentIsThrough : ByteArray := prog_2_method_14_code
def y_Control_segmentIsThrough : MethodName := ⟨"CentrifugeUnit$Control", "segmentIsThrough", "(I)Z"⟩
theorem d_Control_segmentIsThrough_0 : decode bc_Control_segmentIsThrough 0 = .ok (.aload_n 0, 1) := by decide +kernel
theorem d_Control_segmentIsThrough_1 : decode bc_Control_segmentIsThrough 1 = .ok (.getfield 43, 3) := by decide +kernel
theorem d_Control_segmentIsThrough_4 : decode bc_Control_segmentIsThrough 4 = .ok (.getfield 183, 3) := by decide +kernel
theorem d_Control_segmentIsThrough_7 : decode bc_Control_segmentIsThrough 7 = .ok (.iload_n 1, 1) := by decide +kernel
theorem d_Control_segmentIsThrough_8 : decode bc_Control_segmentIsThrough 8 = .ok (.iaload, 1) := by decide +kernel
theorem d_Control_segmentIsThrough_9 : decode bc_Control_segmentIsThrough 9 = .ok (.istore_n 2, 1) := by decide +kernel
theorem d_Control_segmentIsThrough_10 : decode bc_Control_segmentIsThrough 10 = .ok (.aload_n 0, 1) := by decide +kernel
theorem d_Control_segmentIsThrough_11 : decode bc_Control_segmentIsThrough 11 = .ok (.getfield 43, 3) := by decide +kernel
theorem d_Control_segmentIsThrough_14 : decode bc_Control_segmentIsThrough 14 = .ok (.getfield 187, 3) := by decide +kernel
theorem d_Control_segmentIsThrough_17 : decode bc_Control_segmentIsThrough 17 = .ok (.iload_n 1, 1) := by decide +kernel
theorem d_Control_segmentIsThrough_18 : decode bc_Control_segmentIsThrough 18 = .ok (.iaload, 1) := by decide +kernel
theorem d_Control_segmentIsThrough_19 : decode bc_Control_segmentIsThrough 19 = .ok (.istore_n 3, 1) := by decide +kernel
theorem d_Control_segmentIsThrough_20 : decode bc_Control_segmentIsThrough 20 = .ok (.aload_n 0, 1) := by decide +kernel
theorem d_Control_segmentIsThrough_21 : decode bc_Control_segmentIsThrough 21 = .ok (.getfield 21, 3) := by decide +kernel
theorem d_Control_segmentIsThrough_24 : decode bc_Control_segmentIsThrough 24 = .ok (.dup, 1) := by decide +kernel
theorem d_Control_segmentIsThrough_25 : decode bc_Control_segmentIsThrough 25 = .ok (.getfield 190, 3) := by decide +kernel
theorem d_Control_segmentIsThrough_28 : decode bc_Control_segmentIsThrough 28 = .ok (.iconst 1, 1) := by decide +kernel
theorem d_Control_segmentIsThrough_29 : decode bc_Control_segmentIsThrough 29 = .ok (.iadd, 1) := by decide +kernel
theorem d_Control_segmentIsThrough_30 : decode bc_Control_segmentIsThrough 30 = .ok (.putfield 190, 3) := by decide +kernel
theorem d_Control_segmentIsThrough_33 : decode bc_Control_segmentIsThrough 33 = .ok (.aload_n 0, 1) := by decide +kernel
theorem d_Control_segmentIsThrough_34 : decode bc_Control_segmentIsThrough 34 = .ok (.getfield 43, 3) := by decide +kernel
theorem d_Control_segmentIsThrough_37 : decode bc_Control_segmentIsThrough 37 = .ok (.getfield 193, 3) := by decide +kernel
theorem d_Control_segmentIsThrough_40 : decode bc_Control_segmentIsThrough 40 = .ok (.iload_n 1, 1) := by decide +kernel
theorem d_Control_segmentIsThrough_41 : decode bc_Control_segmentIsThrough 41 = .ok (.iaload, 1) := by decide +kernel
theorem d_Control_segmentIsThrough_42 : decode bc_Control_segmentIsThrough 42 = .ok (.tableswitch 92 0 3 #[30, 44, 65, 37], 30) := by decide +kernel
theorem d_Control_segmentIsThrough_72 : decode bc_Control_segmentIsThrough 72 = .ok (.aload_n 0, 1) := by decide +kernel
theorem d_Control_segmentIsThrough_73 : decode bc_Control_segmentIsThrough 73 = .ok (.iload_n 2, 1) := by decide +kernel
theorem d_Control_segmentIsThrough_74 : decode bc_Control_segmentIsThrough 74 = .ok (.iload_n 3, 1) := by decide +kernel
theorem d_Control_segmentIsThrough_75 : decode bc_Control_segmentIsThrough 75 = .ok (.invokevirtual 196, 3) := by decide +kernel
theorem d_Control_segmentIsThrough_78 : decode bc_Control_segmentIsThrough 78 = .ok (.ireturn, 1) := by decide +kernel
theorem d_Control_segmentIsThrough_79 : decode bc_Control_segmentIsThrough 79 = .ok (.aload_n 0, 1) := by decide +kernel
theorem d_Control_segmentIsThrough_80 : decode bc_Control_segmentIsThrough 80 = .ok (.iload_n 2, 1) := by decide +kernel
theorem d_Control_segmentIsThrough_81 : decode bc_Control_segmentIsThrough 81 = .ok (.iload_n 3, 1) := by decide +kernel
theorem d_Control_segmentIsThrough_82 : decode bc_Control_segmentIsThrough 82 = .ok (.invokevirtual 200, 3) := by decide +kernel
theorem d_Control_segmentIsThrough_85 : decode bc_Control_segmentIsThrough 85 = .ok (.ireturn, 1) := by decide +kernel
theorem d_Control_segmentIsThrough_86 : decode bc_Control_segmentIsThrough 86 = .ok (.aload_n 0, 1) := by decide +kernel
theorem d_Control_segmentIsThrough_87 : decode bc_Control_segmentIsThrough 87 = .ok (.invokevirtual 203, 3) := by decide +kernel
theorem d_Control_segmentIsThrough_90 : decode bc_Control_segmentIsThrough 90 = .ok (.aload_n 0, 1) := by decide +kernel
theorem d_Control_segmentIsThrough_91 : decode bc_Control_segmentIsThrough 91 = .ok (.getfield 21, 3) := by decide +kernel
theorem d_Control_segmentIsThrough_94 : decode bc_Control_segmentIsThrough 94 = .ok (.getfield 190, 3) := by decide +kernel
theorem d_Control_segmentIsThrough_97 : decode bc_Control_segmentIsThrough 97 = .ok (.iload_n 2, 1) := by decide +kernel
theorem d_Control_segmentIsThrough_98 : decode bc_Control_segmentIsThrough 98 = .ok (.if_icmp .lt 7, 3) := by decide +kernel
theorem d_Control_segmentIsThrough_101 : decode bc_Control_segmentIsThrough 101 = .ok (.iconst 1, 1) := by decide +kernel
theorem d_Control_segmentIsThrough_102 : decode bc_Control_segmentIsThrough 102 = .ok (.goto 4, 3) := by decide +kernel
theorem d_Control_segmentIsThrough_105 : decode bc_Control_segmentIsThrough 105 = .ok (.iconst 0, 1) := by decide +kernel
theorem d_Control_segmentIsThrough_106 : decode bc_Control_segmentIsThrough 106 = .ok (.ireturn, 1) := by decide +kernel
theorem d_Control_segmentIsThrough_107 : decode bc_Control_segmentIsThrough 107 = .ok (.aload_n 0, 1) := by decide +kernel
theorem d_Control_segmentIsThrough_108 : decode bc_Control_segmentIsThrough 108 = .ok (.invokevirtual 203, 3) := by decide +kernel
theorem d_Control_segmentIsThrough_111 : decode bc_Control_segmentIsThrough 111 = .ok (.aload_n 0, 1) := by decide +kernel
theorem d_Control_segmentIsThrough_112 : decode bc_Control_segmentIsThrough 112 = .ok (.getfield 21, 3) := by decide +kernel
theorem d_Control_segmentIsThrough_115 : decode bc_Control_segmentIsThrough 115 = .ok (.getfield 158, 3) := by decide +kernel
theorem d_Control_segmentIsThrough_118 : decode bc_Control_segmentIsThrough 118 = .ok (.iload_n 2, 1) := by decide +kernel
theorem d_Control_segmentIsThrough_119 : decode bc_Control_segmentIsThrough 119 = .ok (.i2l, 1) := by decide +kernel
theorem d_Control_segmentIsThrough_120 : decode bc_Control_segmentIsThrough 120 = .ok (.ldc2_w 206, 3) := by decide +kernel
theorem d_Control_segmentIsThrough_123 : decode bc_Control_segmentIsThrough 123 = .ok (.lmul, 1) := by decide +kernel
theorem d_Control_segmentIsThrough_124 : decode bc_Control_segmentIsThrough 124 = .ok (.lcmp, 1) := by decide +kernel
theorem d_Control_segmentIsThrough_125 : decode bc_Control_segmentIsThrough 125 = .ok (.ifCond .lt 7, 3) := by decide +kernel
theorem d_Control_segmentIsThrough_128 : decode bc_Control_segmentIsThrough 128 = .ok (.iconst 1, 1) := by decide +kernel
theorem d_Control_segmentIsThrough_129 : decode bc_Control_segmentIsThrough 129 = .ok (.goto 4, 3) := by decide +kernel
theorem d_Control_segmentIsThrough_132 : decode bc_Control_segmentIsThrough 132 = .ok (.iconst 0, 1) := by decide +kernel
theorem d_Control_segmentIsThrough_133 : decode bc_Control_segmentIsThrough 133 = .ok (.ireturn, 1) := by decide +kernel
theorem d_Control_segmentIsThrough_134 : decode bc_Control_segmentIsThrough 134 = .ok (.aload_n 0, 1) := by decide +kernel
theorem d_Control_segmentIsThrough_135 : decode bc_Control_segmentIsThrough 135 = .ok (.invokevirtual 203, 3) := by decide +kernel
theorem d_Control_segmentIsThrough_138 : decode bc_Control_segmentIsThrough 138 = .ok (.aload_n 0, 1) := by decide +kernel
theorem d_Control_segmentIsThrough_139 : decode bc_Control_segmentIsThrough 139 = .ok (.getfield 29, 3) := by decide +kernel
theorem d_Control_segmentIsThrough_142 : decode bc_Control_segmentIsThrough 142 = .ok (.iload_n 2, 1) := by decide +kernel
theorem d_Control_segmentIsThrough_143 : decode bc_Control_segmentIsThrough 143 = .ok (.if_icmp .gt 7, 3) := by decide +kernel
theorem d_Control_segmentIsThrough_146 : decode bc_Control_segmentIsThrough 146 = .ok (.iconst 1, 1) := by decide +kernel
theorem d_Control_segmentIsThrough_147 : decode bc_Control_segmentIsThrough 147 = .ok (.goto 4, 3) := by decide +kernel
theorem d_Control_segmentIsThrough_150 : decode bc_Control_segmentIsThrough 150 = .ok (.iconst 0, 1) := by decide +kernel
theorem d_Control_segmentIsThrough_151 : decode bc_Control_segmentIsThrough 151 = .ok (.ireturn, 1) := by decide +kernel
abbrev ap_Control_segmentIsThrough (M : XM) (u : (Int32 × Int32 × Int32 × Int32)) : XM := ((va_up (va_up (va_up (va_up M.1 27 (u.1)) 28 (u.2.1)) 16 (u.2.2.1)) 17 (u.2.2.2)), M.2)
def F_Control_segmentIsThrough_k5 (M : XM) (a1 : Int32) (p4 : Int32 × (Int32 × Int32 × Int32)) : Int32 × (Int32 × Int32 × Int32 × Int32) := (p4.1, (((M.1 27) + 1), ((p4.2).1), ((p4.2).2.1), ((p4.2).2.2)))
def F_Control_segmentIsThrough_k8 (M : XM) (a1 : Int32) (u7 : (Int32 × Int32)) : Int32 × (Int32 × Int32 × Int32 × Int32) := (if ((M.1 27) + 1) < ((M.2.2.1 8) (a1).toNatClampNeg) then (0, (((M.1 27) + 1), (M.1 28), (u7.1), (u7.2))) else (1, (((M.1 27) + 1), (M.1 28), (u7.1), (u7.2))))
def F_Control_segmentIsThrough_k12 (M : XM) (a1 : Int32) (u11 : (Int32 × Int32)) : Int32 × (Int32 × Int32 × Int32 × Int32) := (if (lg_cmp (M.2.1 1) ((((M.2.2.1 8) (a1).toNatClampNeg)).toInt64 * 1000000000)) < 0 then (0, (((M.1 27) + 1), (M.1 28), (u11.1), (u11.2))) else (1, (((M.1 27) + 1), (M.1 28), (u11.1), (u11.2))))
def F_Control_segmentIsThrough_k18 (M : XM) (a1 : Int32) (p17 : Int32 × (Int32 × Int32)) : Int32 × (Int32 × Int32 × Int32 × Int32) := (p17.1, (((M.1 27) + 1), ((p17.2).2), (M.1 16), ((p17.2).1)))
def F_Control_segmentIsThrough_k20 (M : XM) (a1 : Int32) (u19 : (Int32 × Int32)) : Int32 × (Int32 × Int32 × Int32 × Int32) := (if ((M.2.2.1 8) (a1).toNatClampNeg) < (M.1 13) then (0, (((M.1 27) + 1), (M.1 28), (u19.1), (u19.2))) else (1, (((M.1 27) + 1), (M.1 28), (u19.1), (u19.2))))
def F_Control_segmentIsThrough (M : XM) (a1 : Int32) : Int32 × (Int32 × Int32 × Int32 × Int32) := (if ((M.2.2.1 7) (a1).toNatClampNeg) = 0 then (F_Control_segmentIsThrough_k5 M a1 (F_Control_ramp ((va_up M.1 27 ((M.1 27) + 1)), M.2) ((M.2.2.1 8) (a1).toNatClampNeg) ((M.2.2.1 9) (a1).toNatClampNeg))) else (if ((M.2.2.1 7) (a1).toNatClampNeg) = 1 then (F_Control_segmentIsThrough_k8 M a1 (F_Control_keepToGoal ((va_up M.1 27 ((M.1 27) + 1)), M.2))) else (if ((M.2.2.1 7) (a1).toNatClampNeg) = 2 then (F_Control_segmentIsThrough_k12 M a1 (F_Control_keepToGoal ((va_up M.1 27 ((M.1 27) + 1)), M.2))) else (if ((M.2.2.1 7) (a1).toNatClampNeg) = 3 then (F_Control_segmentIsThrough_k18 M a1 (F_Control_slowDown ((va_up M.1 27 ((M.1 27) + 1)), M.2) ((M.2.2.1 8) (a1).toNatClampNeg) ((M.2.2.1 9) (a1).toNatClampNeg))) else (F_Control_segmentIsThrough_k20 M a1 (F_Control_keepToGoal ((va_up M.1 27 ((M.1 27) + 1)), M.2)))))))
set_option maxHeartbeats 4000000 in
set_option maxRecDepth 100000 in
theorem c_Control_segmentIsThrough (l : Launch) (dC : Nat → ClassId) (dI : Nat → Nat → Nat) (Z : Nat → ClassId) (A : Nat → Nat) (sz : Nat) (M : XM) (a1 : Int32) (hat : vp_in a1 12) : Met l y_Control_segmentIsThrough (.code y_Control_segmentIsThrough bc_Control_segmentIsThrough 4 (some .boolean) :: xw) ({ frames := 3, cells := 0, slots := 0, locals := 68 }) (va_Pc [.ref (A 17), .int a1] (xB (dC, dI) xcl (xty Z) sz [(A 17, xc17 Z A M), (A 6, xc6 Z A M), (A 7, xc7 Z A M), (A 8, xc8 Z A M), (A 9, xc9 Z A M), (A 19, xc19 Z A M), (A 11, xc11 Z A M)])) (va_Qi (fun (r : Int32) (u : (Int32 × Int32 × Int32 × Int32)) => (r, u) = F_Control_segmentIsThrough M a1) (fun u => xE (dC, dI) xcl (xty Z) (va_A [(A 17, xc17 Z A M), (A 6, xc6 Z A M), (A 7, xc7 Z A M), (A 8, xc8 Z A M), (A 9, xc9 Z A M), (A 19, xc19 Z A M), (A 11, xc11 Z A M)] sz) [(A 17, xc17 Z A (ap_Control_segmentIsThrough M u)), (A 6, xc6 Z A (ap_Control_segmentIsThrough M u)), (A 7, xc7 Z A (ap_Control_segmentIsThrough M u)), (A 8, xc8 Z A (ap_Control_segmentIsThrough M u)), (A 9, xc9 Z A (ap_Control_segmentIsThrough M u)), (A 19, xc19 Z A (ap_Control_segmentIsThrough M u)), (A 11, xc11 Z A (ap_Control_segmentIsThrough M u))]) (va_A [(A 17, xc17 Z A M), (A 6, xc6 Z A M), (A 7, xc7 Z A M), (A 8, xc8 Z A M), (A 9, xc9 Z A M), (A 19, xc19 Z A M), (A 11, xc11 Z A M)] sz)) 0 0 (va_A [(A 17, xc17 Z A M), (A 6, xc6 Z A M), (A 7, xc7 Z A M), (A 8, xc8 Z A M), (A 9, xc9 Z A M), (A 19, xc19 Z A M), (A 11, xc11 Z A M)] sz) := by
  refine Met.ofW (cc := bc_Control_segmentIsThrough) (maxL := 4) (ret := (some .boolean)) (by decide) rfl ?_
  intro p e s m args below meth c s₁ B hml hv
  obtain ⟨rfl, hsz, hP, hK, hD0, hq⟩ := hv
  have hx := B.exec
  have hb := B.bytes
  have hr := B.returns
  have hts := atoms_spec (ws := (.code y_Control_segmentIsThrough bc_Control_segmentIsThrough 4 (some .boolean) :: xw)) B.pre
  have htt : ∀ w ∈ xw, w.before _ s = true := fun w h => hts w (List.mem_cons_of_mem _ h)
  have hown : s.vm.findClass "CentrifugeUnit$Control" = some m.cls := findClass_of_methodNamed B.named
  have hlocks := B.notSynchronized
  subst hsz
  have hD := hD0.self (sz := s.heap.size)
  generalize hAe : va_A [(A 17, xc17 Z A M), (A 6, xc6 Z A M), (A 7, xc7 Z A M), (A 8, xc8 Z A M), (A 9, xc9 Z A M), (A 19, xc19 Z A M), (A 11, xc11 Z A M)] s.heap.size = AA at hD ⊢
  have hA : ∀ q : Nat, s.heap.size ≤ q → AA q := fun q h => by rw [← hAe]; exact Or.inr h
  have hS : va_S AA s.heap s.heap [] := va_S.rf
  have hP : va_P (dC, dI) xcl [(A 17, .inr (0, [.ref (A 1), .ref (A 6), .ref (A 11), .ref (A 12), .ref (A 13), .ref (A 18), .ref (A 19), .int (M.1 12), .int (M.1 13), .int (M.1 14), .int (M.1 15), .int (M.1 16), .int (M.1 17), .int (M.1 18)])), (A 6, .inr (3, [.ref (A 7), .ref (A 8), .ref (A 9), .int (M.1 1)])), (A 7, .inl (Z 0, 12, .inl (M.2.2.1 7))), (A 8, .inl (Z 0, 12, .inl (M.2.2.1 8))), (A 9, .inl (Z 0, 12, .inl (M.2.2.1 9))), (A 19, .inr (6, [.long (M.2.1 1), .long (M.2.1 2), .int (M.1 23), .int (M.1 24), .int (M.1 25), .int (M.1 26), .int (M.1 27), .int (M.1 28)])), (A 11, .inr (7, [.int (M.1 2), .int (M.1 3), .int (M.1 4), .int (M.1 5), .int (M.1 6), .int (M.1 7)]))] s.heap := hP
  have hD : va_D AA [(A 17, .inr (0, [.ref (A 1), .ref (A 6), .ref (A 11), .ref (A 12), .ref (A 13), .ref (A 18), .ref (A 19), .int (M.1 12), .int (M.1 13), .int (M.1 14), .int (M.1 15), .int (M.1 16), .int (M.1 17), .int (M.1 18)])), (A 6, .inr (3, [.ref (A 7), .ref (A 8), .ref (A 9), .int (M.1 1)])), (A 7, .inl (Z 0, 12, .inl (M.2.2.1 7))), (A 8, .inl (Z 0, 12, .inl (M.2.2.1 8))), (A 9, .inl (Z 0, 12, .inl (M.2.2.1 9))), (A 19, .inr (6, [.long (M.2.1 1), .long (M.2.1 2), .int (M.1 23), .int (M.1 24), .int (M.1 25), .int (M.1 26), .int (M.1 27), .int (M.1 28)])), (A 11, .inr (7, [.int (M.1 2), .int (M.1 3), .int (M.1 4), .int (M.1 5), .int (M.1 6), .int (M.1 7)]))] := hD
  have hl := lv_entry ([.ref (A 17), .int a1]) (n := 4) (Nat.le_of_ble_eq_true rfl)
  rw [lg_entry_eq]
  generalize (lg_sl ([.ref (A 17), .int a1]) ++ List.replicate (4 - (lg_sl ([.ref (A 17), .int a1])).length) Slot.unset).toArray = ls at hl ⊢
  have hl : lv_has ls 4 [(0, .ref (A 17)), (1, .int a1)] := hl
  refine lv_aload_n hx hb d_Control_segmentIsThrough_0 rfl (lv_at hl 0 rfl) ?_
  refine va_get (D := (dC, dI)) (ci := 0) (v := .ref (A 6)) (C := "CentrifugeUnit$Control") (T := xF0) (N := 14) hx hb htt xin0 hown hK hP 0 rfl rfl 1 (by decide) (htt _ tw_232) (fun _ h9 => h9) rfl d_Control_segmentIsThrough_1 ?_
  refine va_get (D := (dC, dI)) (ci := 3) (v := .ref (A 8)) (C := "CentrifugeUnit$Program") (T := xF3) (N := 4) hx hb htt xin3 hown hK hP 1 rfl rfl 1 (by decide) (htt _ tw_64) (fun _ h9 => h9) rfl d_Control_segmentIsThrough_4 ?_
  refine lv_iload_n hx hb d_Control_segmentIsThrough_7 rfl (lv_at hl 1 rfl) ?_
  refine va_iald (D := (dC, dI)) hx hb hK hP 3 0 rfl rfl hat d_Control_segmentIsThrough_8 ?_
  refine lv_istore_n (lv' := [(2, .int ((M.2.2.1 8) (a1).toNatClampNeg)), (0, .ref (A 17)), (1, .int a1)]) hx hb d_Control_segmentIsThrough_9 rfl hl (by decide) rfl (fun ls hl => ?_)
  refine lv_aload_n hx hb d_Control_segmentIsThrough_10 rfl (lv_at hl 1 rfl) ?_
  refine va_get (D := (dC, dI)) (ci := 0) (v := .ref (A 6)) (C := "CentrifugeUnit$Control") (T := xF0) (N := 14) hx hb htt xin0 hown hK hP 0 rfl rfl 1 (by decide) (htt _ tw_232) (fun _ h9 => h9) rfl d_Control_segmentIsThrough_11 ?_
  refine va_get (D := (dC, dI)) (ci := 3) (v := .ref (A 9)) (C := "CentrifugeUnit$Program") (T := xF3) (N := 4) hx hb htt xin3 hown hK hP 1 rfl rfl 2 (by decide) (htt _ tw_66) (fun _ h9 => h9) rfl d_Control_segmentIsThrough_14 ?_
  refine lv_iload_n hx hb d_Control_segmentIsThrough_17 rfl (lv_at hl 2 rfl) ?_
  refine va_iald (D := (dC, dI)) hx hb hK hP 4 0 rfl rfl hat d_Control_segmentIsThrough_18 ?_
  refine lv_istore_n (lv' := [(3, .int ((M.2.2.1 9) (a1).toNatClampNeg)), (2, .int ((M.2.2.1 8) (a1).toNatClampNeg)), (0, .ref (A 17)), (1, .int a1)]) hx hb d_Control_segmentIsThrough_19 rfl hl (by decide) rfl (fun ls hl => ?_)
  refine lv_aload_n hx hb d_Control_segmentIsThrough_20 rfl (lv_at hl 2 rfl) ?_
  refine va_get (D := (dC, dI)) (ci := 0) (v := .ref (A 19)) (C := "CentrifugeUnit$Control") (T := xF0) (N := 14) hx hb htt xin0 hown hK hP 0 rfl rfl 6 (by decide) (htt _ tw_238) (fun _ h9 => h9) rfl d_Control_segmentIsThrough_21 ?_
  refine lv_dup hx hb d_Control_segmentIsThrough_24 rfl ?_
  refine va_get (D := (dC, dI)) (ci := 6) (v := .int (M.1 27)) (C := "CentrifugeUnit$Run") (T := xF6) (N := 8) hx hb htt xin6 hown hK hP 5 rfl rfl 6 (by decide) (htt _ tw_210) (fun _ h9 => h9) rfl d_Control_segmentIsThrough_25 ?_
  refine lv_iconst (v := 1) hx hb d_Control_segmentIsThrough_28 (by decide) ?_
  refine lv_iadd hx hb d_Control_segmentIsThrough_29 ?_
  refine va_put (D := (dC, dI)) (ci := 6) (v := .int ((M.1 27) + 1)) (ty := .int) (C := "CentrifugeUnit$Run") (T := xF6) (N := 8) hx hb htt xin6 xT6 xTo6 xNm6 hown hK hP hD hS 5 rfl rfl 6 (by decide) (htt _ tw_210) (fun _ h9 => h9) rfl (by decide +kernel) rfl rfl (Nat.le_of_ble_eq_true rfl) d_Control_segmentIsThrough_30 (fun H locs hP hD hS => ?_)
  have hP : va_P (dC, dI) xcl [(A 17, .inr (0, [.ref (A 1), .ref (A 6), .ref (A 11), .ref (A 12), .ref (A 13), .ref (A 18), .ref (A 19), .int (M.1 12), .int (M.1 13), .int (M.1 14), .int (M.1 15), .int (M.1 16), .int (M.1 17), .int (M.1 18)])), (A 6, .inr (3, [.ref (A 7), .ref (A 8), .ref (A 9), .int (M.1 1)])), (A 7, .inl (Z 0, 12, .inl (M.2.2.1 7))), (A 8, .inl (Z 0, 12, .inl (M.2.2.1 8))), (A 9, .inl (Z 0, 12, .inl (M.2.2.1 9))), (A 19, .inr (6, [.long (M.2.1 1), .long (M.2.1 2), .int (M.1 23), .int (M.1 24), .int (M.1 25), .int (M.1 26), .int ((M.1 27) + 1), .int (M.1 28)])), (A 11, .inr (7, [.int (M.1 2), .int (M.1 3), .int (M.1 4), .int (M.1 5), .int (M.1 6), .int (M.1 7)]))] H := hP
  have hD : va_D AA [(A 17, .inr (0, [.ref (A 1), .ref (A 6), .ref (A 11), .ref (A 12), .ref (A 13), .ref (A 18), .ref (A 19), .int (M.1 12), .int (M.1 13), .int (M.1 14), .int (M.1 15), .int (M.1 16), .int (M.1 17), .int (M.1 18)])), (A 6, .inr (3, [.ref (A 7), .ref (A 8), .ref (A 9), .int (M.1 1)])), (A 7, .inl (Z 0, 12, .inl (M.2.2.1 7))), (A 8, .inl (Z 0, 12, .inl (M.2.2.1 8))), (A 9, .inl (Z 0, 12, .inl (M.2.2.1 9))), (A 19, .inr (6, [.long (M.2.1 1), .long (M.2.1 2), .int (M.1 23), .int (M.1 24), .int (M.1 25), .int (M.1 26), .int ((M.1 27) + 1), .int (M.1 28)])), (A 11, .inr (7, [.int (M.1 2), .int (M.1 3), .int (M.1 4), .int (M.1 5), .int (M.1 6), .int (M.1 7)]))] := hD
  refine lv_aload_n hx hb d_Control_segmentIsThrough_33 rfl (lv_at hl 2 rfl) ?_
  refine va_get (D := (dC, dI)) (ci := 0) (v := .ref (A 6)) (C := "CentrifugeUnit$Control") (T := xF0) (N := 14) hx hb htt xin0 hown hK hP 0 rfl rfl 1 (by decide) (htt _ tw_232) (fun _ h9 => h9) rfl d_Control_segmentIsThrough_34 ?_
  refine va_get (D := (dC, dI)) (ci := 3) (v := .ref (A 7)) (C := "CentrifugeUnit$Program") (T := xF3) (N := 4) hx hb htt xin3 hown hK hP 1 rfl rfl 0 (by decide) (htt _ tw_62) (fun _ h9 => h9) rfl d_Control_segmentIsThrough_37 ?_
  refine lv_iload_n hx hb d_Control_segmentIsThrough_40 rfl (lv_at hl 3 rfl) ?_
  refine va_iald (D := (dC, dI)) hx hb hK hP 2 0 rfl rfl hat d_Control_segmentIsThrough_41 ?_
  by_cases h1 : ((M.2.2.1 7) (a1).toNatClampNeg) = 0
  · refine lv_tableIn (off := 30) (tgt := 72) hx hb d_Control_segmentIsThrough_42 (by rw [h1]; decide) (by rw [h1]; decide) (by rw [h1]; decide) rfl ?_
    refine lv_aload_n hx hb d_Control_segmentIsThrough_72 rfl (lv_at hl 2 rfl) ?_
    refine lv_iload_n hx hb d_Control_segmentIsThrough_73 rfl (lv_at hl 1 rfl) ?_
    refine lv_iload_n hx hb d_Control_segmentIsThrough_74 rfl (lv_at hl 0 rfl) ?_
    have hPc := hP.sub (ws' := [(A 17, xc17 Z A ((va_up M.1 27 ((M.1 27) + 1)), M.2)), (A 19, xc19 Z A ((va_up M.1 27 ((M.1 27) + 1)), M.2)), (A 11, xc11 Z A ((va_up M.1 27 ((M.1 27) + 1)), M.2))]) [0, 5, 6] rfl
    have hDc := hD.sub (ws' := [(A 17, xc17 Z A ((va_up M.1 27 ((M.1 27) + 1)), M.2)), (A 19, xc19 Z A ((va_up M.1 27 ((M.1 27) + 1)), M.2)), (A 11, xc11 Z A ((va_up M.1 27 ((M.1 27) + 1)), M.2))]) [0, 5, 6] (by decide) rfl
    refine xk_i (wc := [(A 17, xc17 Z A ((va_up M.1 27 ((M.1 27) + 1)), M.2)), (A 19, xc19 Z A ((va_up M.1 27 ((M.1 27) + 1)), M.2)), (A 11, xc11 Z A ((va_up M.1 27 ((M.1 27) + 1)), M.2))]) (wr := [(A 6, .inr (3, [.ref (A 7), .ref (A 8), .ref (A 9), .int (M.1 1)])), (A 7, .inl (Z 0, 12, .inl (M.2.2.1 7))), (A 8, .inl (Z 0, 12, .inl (M.2.2.1 8))), (A 9, .inl (Z 0, 12, .inl (M.2.2.1 9)))]) (va_runV (As := [.int ((M.2.2.1 8) (a1).toNatClampNeg), .int ((M.2.2.1 9) (a1).toNatClampNeg)]) (rest := []) ⟨hx, hb, hml, hown, hts⟩ (c_Control_ramp l dC dI Z A _ ((va_up M.1 27 ((M.1 27) + 1)), M.2) ((M.2.2.1 8) (a1).toNatClampNeg) ((M.2.2.1 9) (a1).toNatClampNeg)) (cwV 2 hts (xw_V _ tw_673 tw_675 tp_8 tw_9 tw_676) rfl rfl rfl (by decide +kernel) ⟨Nat.le_of_ble_eq_true rfl, Nat.le_of_ble_eq_true rfl⟩) ⟨xB_blind, va_recv (q0 := 0) (ci := 0) hK hP rfl rfl, fun U hU hW => ⟨rfl, xB_at hPc hK hDc hq U hU hW⟩⟩ rfl rfl hl.1 rfl (lv_room (Nat.le_of_ble_eq_true rfl)) d_Control_segmentIsThrough_75 ⟨Nat.le_of_ble_eq_true rfl, Nat.le_of_ble_eq_true rfl⟩) hP hD hS hA [0, 5, 6] [1, 2, 3, 4] rfl rfl (by decide) (by decide) (fun r3 u2 H locs hu2 hP hD hS => ?_)
    obtain ⟨p4, rfl, rfl⟩ : ∃ z : Int32 × (Int32 × Int32 × Int32), r3 = z.1 ∧ u2 = z.2 := ⟨(r3, u2), rfl, rfl⟩
    replace hu2 : p4 = (F_Control_ramp ((va_up M.1 27 ((M.1 27) + 1)), M.2) ((M.2.2.1 8) (a1).toNatClampNeg) ((M.2.2.1 9) (a1).toNatClampNeg)) := hu2
    have hP : va_P (dC, dI) xcl [(A 6, .inr (3, [.ref (A 7), .ref (A 8), .ref (A 9), .int (M.1 1)])), (A 7, .inl (Z 0, 12, .inl (M.2.2.1 7))), (A 8, .inl (Z 0, 12, .inl (M.2.2.1 8))), (A 9, .inl (Z 0, 12, .inl (M.2.2.1 9))), (A 17, .inr (0, [.ref (A 1), .ref (A 6), .ref (A 11), .ref (A 12), .ref (A 13), .ref (A 18), .ref (A 19), .int (M.1 12), .int (M.1 13), .int (M.1 14), .int (M.1 15), .int ((p4.2).2.1), .int ((p4.2).2.2), .int (M.1 18)])), (A 19, .inr (6, [.long (M.2.1 1), .long (M.2.1 2), .int (M.1 23), .int (M.1 24), .int (M.1 25), .int (M.1 26), .int ((M.1 27) + 1), .int ((p4.2).1)])), (A 11, .inr (7, [.int (M.1 2), .int (M.1 3), .int (M.1 4), .int (M.1 5), .int (M.1 6), .int (M.1 7)]))] H := hP
    have hD : va_D AA [(A 6, .inr (3, [.ref (A 7), .ref (A 8), .ref (A 9), .int (M.1 1)])), (A 7, .inl (Z 0, 12, .inl (M.2.2.1 7))), (A 8, .inl (Z 0, 12, .inl (M.2.2.1 8))), (A 9, .inl (Z 0, 12, .inl (M.2.2.1 9))), (A 17, .inr (0, [.ref (A 1), .ref (A 6), .ref (A 11), .ref (A 12), .ref (A 13), .ref (A 18), .ref (A 19), .int (M.1 12), .int (M.1 13), .int (M.1 14), .int (M.1 15), .int ((p4.2).2.1), .int ((p4.2).2.2), .int (M.1 18)])), (A 19, .inr (6, [.long (M.2.1 1), .long (M.2.1 2), .int (M.1 23), .int (M.1 24), .int (M.1 25), .int (M.1 26), .int ((M.1 27) + 1), .int ((p4.2).1)])), (A 11, .inr (7, [.int (M.1 2), .int (M.1 3), .int (M.1 4), .int (M.1 5), .int (M.1 6), .int (M.1 7)]))] := hD
    have hP9 := hP.sub (ws' := [(A 17, xc17 Z A (ap_Control_segmentIsThrough M (((M.1 27) + 1), ((p4.2).1), ((p4.2).2.1), ((p4.2).2.2)))), (A 6, xc6 Z A (ap_Control_segmentIsThrough M (((M.1 27) + 1), ((p4.2).1), ((p4.2).2.1), ((p4.2).2.2)))), (A 7, xc7 Z A (ap_Control_segmentIsThrough M (((M.1 27) + 1), ((p4.2).1), ((p4.2).2.1), ((p4.2).2.2)))), (A 8, xc8 Z A (ap_Control_segmentIsThrough M (((M.1 27) + 1), ((p4.2).1), ((p4.2).2.1), ((p4.2).2.2)))), (A 9, xc9 Z A (ap_Control_segmentIsThrough M (((M.1 27) + 1), ((p4.2).1), ((p4.2).2.1), ((p4.2).2.2)))), (A 19, xc19 Z A (ap_Control_segmentIsThrough M (((M.1 27) + 1), ((p4.2).1), ((p4.2).2.1), ((p4.2).2.2)))), (A 11, xc11 Z A (ap_Control_segmentIsThrough M (((M.1 27) + 1), ((p4.2).1), ((p4.2).2.1), ((p4.2).2.2))))]) [4, 0, 1, 2, 3, 5, 6] rfl
    have hD9 := hD.sub (ws' := [(A 17, xc17 Z A (ap_Control_segmentIsThrough M (((M.1 27) + 1), ((p4.2).1), ((p4.2).2.1), ((p4.2).2.2)))), (A 6, xc6 Z A (ap_Control_segmentIsThrough M (((M.1 27) + 1), ((p4.2).1), ((p4.2).2.1), ((p4.2).2.2)))), (A 7, xc7 Z A (ap_Control_segmentIsThrough M (((M.1 27) + 1), ((p4.2).1), ((p4.2).2.1), ((p4.2).2.2)))), (A 8, xc8 Z A (ap_Control_segmentIsThrough M (((M.1 27) + 1), ((p4.2).1), ((p4.2).2.1), ((p4.2).2.2)))), (A 9, xc9 Z A (ap_Control_segmentIsThrough M (((M.1 27) + 1), ((p4.2).1), ((p4.2).2.1), ((p4.2).2.2)))), (A 19, xc19 Z A (ap_Control_segmentIsThrough M (((M.1 27) + 1), ((p4.2).1), ((p4.2).2.1), ((p4.2).2.2)))), (A 11, xc11 Z A (ap_Control_segmentIsThrough M (((M.1 27) + 1), ((p4.2).1), ((p4.2).2.1), ((p4.2).2.2))))]) [4, 0, 1, 2, 3, 5, 6] (by decide) rfl
    exact W.zret (ty := .boolean) hx hb hr (xz_nar (by rw [hu2]; exact f01_Control_ramp ((va_up M.1 27 ((M.1 27) + 1)), M.2) ((M.2.2.1 8) (a1).toNatClampNeg) ((M.2.2.1 9) (a1).toNatClampNeg))) (fun t ht hW => ⟨⟨p4.1, (((M.1 27) + 1), ((p4.2).1), ((p4.2).2.1), ((p4.2).2.2)), rfl, (by rw [F_Control_segmentIsThrough, if_pos h1, ← hu2, F_Control_segmentIsThrough_k5]), xE_at hP9 hK hD9 ht hW⟩, hS.F ht⟩) hS.2.2 d_Control_segmentIsThrough_78
  by_cases h6 : ((M.2.2.1 7) (a1).toNatClampNeg) = 1
  · refine lv_tableIn (off := 44) (tgt := 86) hx hb d_Control_segmentIsThrough_42 (by rw [h6]; decide) (by rw [h6]; decide) (by rw [h6]; decide) rfl ?_
    refine lv_aload_n hx hb d_Control_segmentIsThrough_86 rfl (lv_at hl 2 rfl) ?_
    have hPc := hP.sub (ws' := [(A 17, xc17 Z A ((va_up M.1 27 ((M.1 27) + 1)), M.2)), (A 19, xc19 Z A ((va_up M.1 27 ((M.1 27) + 1)), M.2)), (A 11, xc11 Z A ((va_up M.1 27 ((M.1 27) + 1)), M.2))]) [0, 5, 6] rfl
    have hDc := hD.sub (ws' := [(A 17, xc17 Z A ((va_up M.1 27 ((M.1 27) + 1)), M.2)), (A 19, xc19 Z A ((va_up M.1 27 ((M.1 27) + 1)), M.2)), (A 11, xc11 Z A ((va_up M.1 27 ((M.1 27) + 1)), M.2))]) [0, 5, 6] (by decide) rfl
    refine xk_v (wc := [(A 17, xc17 Z A ((va_up M.1 27 ((M.1 27) + 1)), M.2)), (A 19, xc19 Z A ((va_up M.1 27 ((M.1 27) + 1)), M.2)), (A 11, xc11 Z A ((va_up M.1 27 ((M.1 27) + 1)), M.2))]) (wr := [(A 6, .inr (3, [.ref (A 7), .ref (A 8), .ref (A 9), .int (M.1 1)])), (A 7, .inl (Z 0, 12, .inl (M.2.2.1 7))), (A 8, .inl (Z 0, 12, .inl (M.2.2.1 8))), (A 9, .inl (Z 0, 12, .inl (M.2.2.1 9)))]) (va_runV (As := []) (rest := []) ⟨hx, hb, hml, hown, hts⟩ (c_Control_keepToGoal l dC dI Z A _ ((va_up M.1 27 ((M.1 27) + 1)), M.2)) (cwV 0 hts (xw_V _ tw_683 tw_685 tp_9 tw_9 tw_686) rfl rfl rfl (by decide +kernel) ⟨Nat.le_of_ble_eq_true rfl, Nat.le_of_ble_eq_true rfl⟩) ⟨xB_blind, va_recv (q0 := 0) (ci := 0) hK hP rfl rfl, fun U hU hW => ⟨rfl, xB_at hPc hK hDc hq U hU hW⟩⟩ rfl rfl hl.1 rfl (lv_room (Nat.le_of_ble_eq_true rfl)) d_Control_segmentIsThrough_87 ⟨Nat.le_of_ble_eq_true rfl, Nat.le_of_ble_eq_true rfl⟩) hP hD hS hA [0, 5, 6] [1, 2, 3, 4] rfl rfl (by decide) (by decide) (fun u7 H locs hu7 hP hD hS => ?_)
    have hP : va_P (dC, dI) xcl [(A 6, .inr (3, [.ref (A 7), .ref (A 8), .ref (A 9), .int (M.1 1)])), (A 7, .inl (Z 0, 12, .inl (M.2.2.1 7))), (A 8, .inl (Z 0, 12, .inl (M.2.2.1 8))), (A 9, .inl (Z 0, 12, .inl (M.2.2.1 9))), (A 17, .inr (0, [.ref (A 1), .ref (A 6), .ref (A 11), .ref (A 12), .ref (A 13), .ref (A 18), .ref (A 19), .int (M.1 12), .int (M.1 13), .int (M.1 14), .int (M.1 15), .int (u7.1), .int (u7.2), .int (M.1 18)])), (A 19, .inr (6, [.long (M.2.1 1), .long (M.2.1 2), .int (M.1 23), .int (M.1 24), .int (M.1 25), .int (M.1 26), .int ((M.1 27) + 1), .int (M.1 28)])), (A 11, .inr (7, [.int (M.1 2), .int (M.1 3), .int (M.1 4), .int (M.1 5), .int (M.1 6), .int (M.1 7)]))] H := hP
    have hD : va_D AA [(A 6, .inr (3, [.ref (A 7), .ref (A 8), .ref (A 9), .int (M.1 1)])), (A 7, .inl (Z 0, 12, .inl (M.2.2.1 7))), (A 8, .inl (Z 0, 12, .inl (M.2.2.1 8))), (A 9, .inl (Z 0, 12, .inl (M.2.2.1 9))), (A 17, .inr (0, [.ref (A 1), .ref (A 6), .ref (A 11), .ref (A 12), .ref (A 13), .ref (A 18), .ref (A 19), .int (M.1 12), .int (M.1 13), .int (M.1 14), .int (M.1 15), .int (u7.1), .int (u7.2), .int (M.1 18)])), (A 19, .inr (6, [.long (M.2.1 1), .long (M.2.1 2), .int (M.1 23), .int (M.1 24), .int (M.1 25), .int (M.1 26), .int ((M.1 27) + 1), .int (M.1 28)])), (A 11, .inr (7, [.int (M.1 2), .int (M.1 3), .int (M.1 4), .int (M.1 5), .int (M.1 6), .int (M.1 7)]))] := hD
    refine lv_aload_n hx hb d_Control_segmentIsThrough_90 rfl (lv_at hl 2 rfl) ?_
    refine va_get (D := (dC, dI)) (ci := 0) (v := .ref (A 19)) (C := "CentrifugeUnit$Control") (T := xF0) (N := 14) hx hb htt xin0 hown hK hP 4 rfl rfl 6 (by decide) (htt _ tw_238) (fun _ h9 => h9) rfl d_Control_segmentIsThrough_91 ?_
    refine va_get (D := (dC, dI)) (ci := 6) (v := .int ((M.1 27) + 1)) (C := "CentrifugeUnit$Run") (T := xF6) (N := 8) hx hb htt xin6 hown hK hP 5 rfl rfl 6 (by decide) (htt _ tw_210) (fun _ h9 => h9) rfl d_Control_segmentIsThrough_94 ?_
    refine lv_iload_n hx hb d_Control_segmentIsThrough_97 rfl (lv_at hl 1 rfl) ?_
    refine lv_icmp_lt (tgt := 105) hx hb d_Control_segmentIsThrough_98 rfl (fun h9 => ?_) (fun h9 => ?_)
    · refine lv_iconst (v := 0) hx hb d_Control_segmentIsThrough_105 (by decide) ?_
      have hP9 := hP.sub (ws' := [(A 17, xc17 Z A (ap_Control_segmentIsThrough M (((M.1 27) + 1), (M.1 28), (u7.1), (u7.2)))), (A 6, xc6 Z A (ap_Control_segmentIsThrough M (((M.1 27) + 1), (M.1 28), (u7.1), (u7.2)))), (A 7, xc7 Z A (ap_Control_segmentIsThrough M (((M.1 27) + 1), (M.1 28), (u7.1), (u7.2)))), (A 8, xc8 Z A (ap_Control_segmentIsThrough M (((M.1 27) + 1), (M.1 28), (u7.1), (u7.2)))), (A 9, xc9 Z A (ap_Control_segmentIsThrough M (((M.1 27) + 1), (M.1 28), (u7.1), (u7.2)))), (A 19, xc19 Z A (ap_Control_segmentIsThrough M (((M.1 27) + 1), (M.1 28), (u7.1), (u7.2)))), (A 11, xc11 Z A (ap_Control_segmentIsThrough M (((M.1 27) + 1), (M.1 28), (u7.1), (u7.2))))]) [4, 0, 1, 2, 3, 5, 6] rfl
      have hD9 := hD.sub (ws' := [(A 17, xc17 Z A (ap_Control_segmentIsThrough M (((M.1 27) + 1), (M.1 28), (u7.1), (u7.2)))), (A 6, xc6 Z A (ap_Control_segmentIsThrough M (((M.1 27) + 1), (M.1 28), (u7.1), (u7.2)))), (A 7, xc7 Z A (ap_Control_segmentIsThrough M (((M.1 27) + 1), (M.1 28), (u7.1), (u7.2)))), (A 8, xc8 Z A (ap_Control_segmentIsThrough M (((M.1 27) + 1), (M.1 28), (u7.1), (u7.2)))), (A 9, xc9 Z A (ap_Control_segmentIsThrough M (((M.1 27) + 1), (M.1 28), (u7.1), (u7.2)))), (A 19, xc19 Z A (ap_Control_segmentIsThrough M (((M.1 27) + 1), (M.1 28), (u7.1), (u7.2)))), (A 11, xc11 Z A (ap_Control_segmentIsThrough M (((M.1 27) + 1), (M.1 28), (u7.1), (u7.2))))]) [4, 0, 1, 2, 3, 5, 6] (by decide) rfl
      exact W.zret (ty := .boolean) hx hb hr rfl (fun t ht hW => ⟨⟨0, (((M.1 27) + 1), (M.1 28), (u7.1), (u7.2)), rfl, (by rw [F_Control_segmentIsThrough, if_neg h1, if_pos h6, ← hu7, F_Control_segmentIsThrough_k8, if_pos h9]), xE_at hP9 hK hD9 ht hW⟩, hS.F ht⟩) hS.2.2 d_Control_segmentIsThrough_106
    · refine lv_iconst (v := 1) hx hb d_Control_segmentIsThrough_101 (by decide) ?_
      refine lv_goto (tgt := 106) hx hb d_Control_segmentIsThrough_102 rfl ?_
      have hP9 := hP.sub (ws' := [(A 17, xc17 Z A (ap_Control_segmentIsThrough M (((M.1 27) + 1), (M.1 28), (u7.1), (u7.2)))), (A 6, xc6 Z A (ap_Control_segmentIsThrough M (((M.1 27) + 1), (M.1 28), (u7.1), (u7.2)))), (A 7, xc7 Z A (ap_Control_segmentIsThrough M (((M.1 27) + 1), (M.1 28), (u7.1), (u7.2)))), (A 8, xc8 Z A (ap_Control_segmentIsThrough M (((M.1 27) + 1), (M.1 28), (u7.1), (u7.2)))), (A 9, xc9 Z A (ap_Control_segmentIsThrough M (((M.1 27) + 1), (M.1 28), (u7.1), (u7.2)))), (A 19, xc19 Z A (ap_Control_segmentIsThrough M (((M.1 27) + 1), (M.1 28), (u7.1), (u7.2)))), (A 11, xc11 Z A (ap_Control_segmentIsThrough M (((M.1 27) + 1), (M.1 28), (u7.1), (u7.2))))]) [4, 0, 1, 2, 3, 5, 6] rfl
      have hD9 := hD.sub (ws' := [(A 17, xc17 Z A (ap_Control_segmentIsThrough M (((M.1 27) + 1), (M.1 28), (u7.1), (u7.2)))), (A 6, xc6 Z A (ap_Control_segmentIsThrough M (((M.1 27) + 1), (M.1 28), (u7.1), (u7.2)))), (A 7, xc7 Z A (ap_Control_segmentIsThrough M (((M.1 27) + 1), (M.1 28), (u7.1), (u7.2)))), (A 8, xc8 Z A (ap_Control_segmentIsThrough M (((M.1 27) + 1), (M.1 28), (u7.1), (u7.2)))), (A 9, xc9 Z A (ap_Control_segmentIsThrough M (((M.1 27) + 1), (M.1 28), (u7.1), (u7.2)))), (A 19, xc19 Z A (ap_Control_segmentIsThrough M (((M.1 27) + 1), (M.1 28), (u7.1), (u7.2)))), (A 11, xc11 Z A (ap_Control_segmentIsThrough M (((M.1 27) + 1), (M.1 28), (u7.1), (u7.2))))]) [4, 0, 1, 2, 3, 5, 6] (by decide) rfl
      exact W.zret (ty := .boolean) hx hb hr rfl (fun t ht hW => ⟨⟨1, (((M.1 27) + 1), (M.1 28), (u7.1), (u7.2)), rfl, (by rw [F_Control_segmentIsThrough, if_neg h1, if_pos h6, ← hu7, F_Control_segmentIsThrough_k8, if_neg h9]), xE_at hP9 hK hD9 ht hW⟩, hS.F ht⟩) hS.2.2 d_Control_segmentIsThrough_106
  by_cases h10 : ((M.2.2.1 7) (a1).toNatClampNeg) = 2
  · refine lv_tableIn (off := 65) (tgt := 107) hx hb d_Control_segmentIsThrough_42 (by rw [h10]; decide) (by rw [h10]; decide) (by rw [h10]; decide) rfl ?_
    refine lv_aload_n hx hb d_Control_segmentIsThrough_107 rfl (lv_at hl 2 rfl) ?_
    have hPc := hP.sub (ws' := [(A 17, xc17 Z A ((va_up M.1 27 ((M.1 27) + 1)), M.2)), (A 19, xc19 Z A ((va_up M.1 27 ((M.1 27) + 1)), M.2)), (A 11, xc11 Z A ((va_up M.1 27 ((M.1 27) + 1)), M.2))]) [0, 5, 6] rfl
    have hDc := hD.sub (ws' := [(A 17, xc17 Z A ((va_up M.1 27 ((M.1 27) + 1)), M.2)), (A 19, xc19 Z A ((va_up M.1 27 ((M.1 27) + 1)), M.2)), (A 11, xc11 Z A ((va_up M.1 27 ((M.1 27) + 1)), M.2))]) [0, 5, 6] (by decide) rfl
    refine xk_v (wc := [(A 17, xc17 Z A ((va_up M.1 27 ((M.1 27) + 1)), M.2)), (A 19, xc19 Z A ((va_up M.1 27 ((M.1 27) + 1)), M.2)), (A 11, xc11 Z A ((va_up M.1 27 ((M.1 27) + 1)), M.2))]) (wr := [(A 6, .inr (3, [.ref (A 7), .ref (A 8), .ref (A 9), .int (M.1 1)])), (A 7, .inl (Z 0, 12, .inl (M.2.2.1 7))), (A 8, .inl (Z 0, 12, .inl (M.2.2.1 8))), (A 9, .inl (Z 0, 12, .inl (M.2.2.1 9)))]) (va_runV (As := []) (rest := []) ⟨hx, hb, hml, hown, hts⟩ (c_Control_keepToGoal l dC dI Z A _ ((va_up M.1 27 ((M.1 27) + 1)), M.2)) (cwV 0 hts (xw_V _ tw_683 tw_685 tp_9 tw_9 tw_686) rfl rfl rfl (by decide +kernel) ⟨Nat.le_of_ble_eq_true rfl, Nat.le_of_ble_eq_true rfl⟩) ⟨xB_blind, va_recv (q0 := 0) (ci := 0) hK hP rfl rfl, fun U hU hW => ⟨rfl, xB_at hPc hK hDc hq U hU hW⟩⟩ rfl rfl hl.1 rfl (lv_room (Nat.le_of_ble_eq_true rfl)) d_Control_segmentIsThrough_108 ⟨Nat.le_of_ble_eq_true rfl, Nat.le_of_ble_eq_true rfl⟩) hP hD hS hA [0, 5, 6] [1, 2, 3, 4] rfl rfl (by decide) (by decide) (fun u11 H locs hu11 hP hD hS => ?_)
    have hP : va_P (dC, dI) xcl [(A 6, .inr (3, [.ref (A 7), .ref (A 8), .ref (A 9), .int (M.1 1)])), (A 7, .inl (Z 0, 12, .inl (M.2.2.1 7))), (A 8, .inl (Z 0, 12, .inl (M.2.2.1 8))), (A 9, .inl (Z 0, 12, .inl (M.2.2.1 9))), (A 17, .inr (0, [.ref (A 1), .ref (A 6), .ref (A 11), .ref (A 12), .ref (A 13), .ref (A 18), .ref (A 19), .int (M.1 12), .int (M.1 13), .int (M.1 14), .int (M.1 15), .int (u11.1), .int (u11.2), .int (M.1 18)])), (A 19, .inr (6, [.long (M.2.1 1), .long (M.2.1 2), .int (M.1 23), .int (M.1 24), .int (M.1 25), .int (M.1 26), .int ((M.1 27) + 1), .int (M.1 28)])), (A 11, .inr (7, [.int (M.1 2), .int (M.1 3), .int (M.1 4), .int (M.1 5), .int (M.1 6), .int (M.1 7)]))] H := hP
    have hD : va_D AA [(A 6, .inr (3, [.ref (A 7), .ref (A 8), .ref (A 9), .int (M.1 1)])), (A 7, .inl (Z 0, 12, .inl (M.2.2.1 7))), (A 8, .inl (Z 0, 12, .inl (M.2.2.1 8))), (A 9, .inl (Z 0, 12, .inl (M.2.2.1 9))), (A 17, .inr (0, [.ref (A 1), .ref (A 6), .ref (A 11), .ref (A 12), .ref (A 13), .ref (A 18), .ref (A 19), .int (M.1 12), .int (M.1 13), .int (M.1 14), .int (M.1 15), .int (u11.1), .int (u11.2), .int (M.1 18)])), (A 19, .inr (6, [.long (M.2.1 1), .long (M.2.1 2), .int (M.1 23), .int (M.1 24), .int (M.1 25), .int (M.1 26), .int ((M.1 27) + 1), .int (M.1 28)])), (A 11, .inr (7, [.int (M.1 2), .int (M.1 3), .int (M.1 4), .int (M.1 5), .int (M.1 6), .int (M.1 7)]))] := hD
    refine lv_aload_n hx hb d_Control_segmentIsThrough_111 rfl (lv_at hl 2 rfl) ?_
    refine va_get (D := (dC, dI)) (ci := 0) (v := .ref (A 19)) (C := "CentrifugeUnit$Control") (T := xF0) (N := 14) hx hb htt xin0 hown hK hP 4 rfl rfl 6 (by decide) (htt _ tw_238) (fun _ h9 => h9) rfl d_Control_segmentIsThrough_112 ?_
    refine va_get (D := (dC, dI)) (ci := 6) (v := .long (M.2.1 1)) (C := "CentrifugeUnit$Run") (T := xF6) (N := 8) hx hb htt xin6 hown hK hP 5 rfl rfl 0 (by decide) (htt _ tw_195) (fun _ h9 => h9) rfl d_Control_segmentIsThrough_115 ?_
    refine lv_iload_n hx hb d_Control_segmentIsThrough_118 rfl (lv_at hl 1 rfl) ?_
    refine lv_i2l (v := (((M.2.2.1 8) (a1).toNatClampNeg)).toInt64) hx hb d_Control_segmentIsThrough_119 rfl ?_
    refine lv_ldc2 (v := 1000000000) hx hb hown (htt _ tw_695) d_Control_segmentIsThrough_120 ?_
    refine lv_lmul hx hb d_Control_segmentIsThrough_123 ?_
    refine W.lcmp hx hb d_Control_segmentIsThrough_124 ?_
    refine lv_if_lt (tgt := 132) hx hb d_Control_segmentIsThrough_125 rfl (fun h13 => ?_) (fun h13 => ?_)
    · refine lv_iconst (v := 0) hx hb d_Control_segmentIsThrough_132 (by decide) ?_
      have hP9 := hP.sub (ws' := [(A 17, xc17 Z A (ap_Control_segmentIsThrough M (((M.1 27) + 1), (M.1 28), (u11.1), (u11.2)))), (A 6, xc6 Z A (ap_Control_segmentIsThrough M (((M.1 27) + 1), (M.1 28), (u11.1), (u11.2)))), (A 7, xc7 Z A (ap_Control_segmentIsThrough M (((M.1 27) + 1), (M.1 28), (u11.1), (u11.2)))), (A 8, xc8 Z A (ap_Control_segmentIsThrough M (((M.1 27) + 1), (M.1 28), (u11.1), (u11.2)))), (A 9, xc9 Z A (ap_Control_segmentIsThrough M (((M.1 27) + 1), (M.1 28), (u11.1), (u11.2)))), (A 19, xc19 Z A (ap_Control_segmentIsThrough M (((M.1 27) + 1), (M.1 28), (u11.1), (u11.2)))), (A 11, xc11 Z A (ap_Control_segmentIsThrough M (((M.1 27) + 1), (M.1 28), (u11.1), (u11.2))))]) [4, 0, 1, 2, 3, 5, 6] rfl
      have hD9 := hD.sub (ws' := [(A 17, xc17 Z A (ap_Control_segmentIsThrough M (((M.1 27) + 1), (M.1 28), (u11.1), (u11.2)))), (A 6, xc6 Z A (ap_Control_segmentIsThrough M (((M.1 27) + 1), (M.1 28), (u11.1), (u11.2)))), (A 7, xc7 Z A (ap_Control_segmentIsThrough M (((M.1 27) + 1), (M.1 28), (u11.1), (u11.2)))), (A 8, xc8 Z A (ap_Control_segmentIsThrough M (((M.1 27) + 1), (M.1 28), (u11.1), (u11.2)))), (A 9, xc9 Z A (ap_Control_segmentIsThrough M (((M.1 27) + 1), (M.1 28), (u11.1), (u11.2)))), (A 19, xc19 Z A (ap_Control_segmentIsThrough M (((M.1 27) + 1), (M.1 28), (u11.1), (u11.2)))), (A 11, xc11 Z A (ap_Control_segmentIsThrough M (((M.1 27) + 1), (M.1 28), (u11.1), (u11.2))))]) [4, 0, 1, 2, 3, 5, 6] (by decide) rfl
      exact W.zret (ty := .boolean) hx hb hr rfl (fun t ht hW => ⟨⟨0, (((M.1 27) + 1), (M.1 28), (u11.1), (u11.2)), rfl, (by rw [F_Control_segmentIsThrough, if_neg h1, if_neg h6, if_pos h10, ← hu11, F_Control_segmentIsThrough_k12, if_pos h13]), xE_at hP9 hK hD9 ht hW⟩, hS.F ht⟩) hS.2.2 d_Control_segmentIsThrough_133
    · refine lv_iconst (v := 1) hx hb d_Control_segmentIsThrough_128 (by decide) ?_
      refine lv_goto (tgt := 133) hx hb d_Control_segmentIsThrough_129 rfl ?_
      have hP9 := hP.sub (ws' := [(A 17, xc17 Z A (ap_Control_segmentIsThrough M (((M.1 27) + 1), (M.1 28), (u11.1), (u11.2)))), (A 6, xc6 Z A (ap_Control_segmentIsThrough M (((M.1 27) + 1), (M.1 28), (u11.1), (u11.2)))), (A 7, xc7 Z A (ap_Control_segmentIsThrough M (((M.1 27) + 1), (M.1 28), (u11.1), (u11.2)))), (A 8, xc8 Z A (ap_Control_segmentIsThrough M (((M.1 27) + 1), (M.1 28), (u11.1), (u11.2)))), (A 9, xc9 Z A (ap_Control_segmentIsThrough M (((M.1 27) + 1), (M.1 28), (u11.1), (u11.2)))), (A 19, xc19 Z A (ap_Control_segmentIsThrough M (((M.1 27) + 1), (M.1 28), (u11.1), (u11.2)))), (A 11, xc11 Z A (ap_Control_segmentIsThrough M (((M.1 27) + 1), (M.1 28), (u11.1), (u11.2))))]) [4, 0, 1, 2, 3, 5, 6] rfl
      have hD9 := hD.sub (ws' := [(A 17, xc17 Z A (ap_Control_segmentIsThrough M (((M.1 27) + 1), (M.1 28), (u11.1), (u11.2)))), (A 6, xc6 Z A (ap_Control_segmentIsThrough M (((M.1 27) + 1), (M.1 28), (u11.1), (u11.2)))), (A 7, xc7 Z A (ap_Control_segmentIsThrough M (((M.1 27) + 1), (M.1 28), (u11.1), (u11.2)))), (A 8, xc8 Z A (ap_Control_segmentIsThrough M (((M.1 27) + 1), (M.1 28), (u11.1), (u11.2)))), (A 9, xc9 Z A (ap_Control_segmentIsThrough M (((M.1 27) + 1), (M.1 28), (u11.1), (u11.2)))), (A 19, xc19 Z A (ap_Control_segmentIsThrough M (((M.1 27) + 1), (M.1 28), (u11.1), (u11.2)))), (A 11, xc11 Z A (ap_Control_segmentIsThrough M (((M.1 27) + 1), (M.1 28), (u11.1), (u11.2))))]) [4, 0, 1, 2, 3, 5, 6] (by decide) rfl
      exact W.zret (ty := .boolean) hx hb hr rfl (fun t ht hW => ⟨⟨1, (((M.1 27) + 1), (M.1 28), (u11.1), (u11.2)), rfl, (by rw [F_Control_segmentIsThrough, if_neg h1, if_neg h6, if_pos h10, ← hu11, F_Control_segmentIsThrough_k12, if_neg h13]), xE_at hP9 hK hD9 ht hW⟩, hS.F ht⟩) hS.2.2 d_Control_segmentIsThrough_133
  by_cases h14 : ((M.2.2.1 7) (a1).toNatClampNeg) = 3
  · refine lv_tableIn (off := 37) (tgt := 79) hx hb d_Control_segmentIsThrough_42 (by rw [h14]; decide) (by rw [h14]; decide) (by rw [h14]; decide) rfl ?_
    refine lv_aload_n hx hb d_Control_segmentIsThrough_79 rfl (lv_at hl 2 rfl) ?_
    refine lv_iload_n hx hb d_Control_segmentIsThrough_80 rfl (lv_at hl 1 rfl) ?_
    refine lv_iload_n hx hb d_Control_segmentIsThrough_81 rfl (lv_at hl 0 rfl) ?_
    have hPc := hP.sub (ws' := [(A 17, xc17 Z A ((va_up M.1 27 ((M.1 27) + 1)), M.2)), (A 19, xc19 Z A ((va_up M.1 27 ((M.1 27) + 1)), M.2)), (A 11, xc11 Z A ((va_up M.1 27 ((M.1 27) + 1)), M.2))]) [0, 5, 6] rfl
    have hDc := hD.sub (ws' := [(A 17, xc17 Z A ((va_up M.1 27 ((M.1 27) + 1)), M.2)), (A 19, xc19 Z A ((va_up M.1 27 ((M.1 27) + 1)), M.2)), (A 11, xc11 Z A ((va_up M.1 27 ((M.1 27) + 1)), M.2))]) [0, 5, 6] (by decide) rfl
    refine xk_i (wc := [(A 17, xc17 Z A ((va_up M.1 27 ((M.1 27) + 1)), M.2)), (A 19, xc19 Z A ((va_up M.1 27 ((M.1 27) + 1)), M.2)), (A 11, xc11 Z A ((va_up M.1 27 ((M.1 27) + 1)), M.2))]) (wr := [(A 6, .inr (3, [.ref (A 7), .ref (A 8), .ref (A 9), .int (M.1 1)])), (A 7, .inl (Z 0, 12, .inl (M.2.2.1 7))), (A 8, .inl (Z 0, 12, .inl (M.2.2.1 8))), (A 9, .inl (Z 0, 12, .inl (M.2.2.1 9)))]) (va_runV (As := [.int ((M.2.2.1 8) (a1).toNatClampNeg), .int ((M.2.2.1 9) (a1).toNatClampNeg)]) (rest := []) ⟨hx, hb, hml, hown, hts⟩ (c_Control_slowDown l dC dI Z A _ ((va_up M.1 27 ((M.1 27) + 1)), M.2) ((M.2.2.1 8) (a1).toNatClampNeg) ((M.2.2.1 9) (a1).toNatClampNeg)) (cwV 2 hts (xw_V _ tw_691 tw_693 tp_10 tw_9 tw_694) rfl rfl rfl (by decide +kernel) ⟨Nat.le_of_ble_eq_true rfl, Nat.le_of_ble_eq_true rfl⟩) ⟨xB_blind, va_recv (q0 := 0) (ci := 0) hK hP rfl rfl, fun U hU hW => ⟨rfl, xB_at hPc hK hDc hq U hU hW⟩⟩ rfl rfl hl.1 rfl (lv_room (Nat.le_of_ble_eq_true rfl)) d_Control_segmentIsThrough_82 ⟨Nat.le_of_ble_eq_true rfl, Nat.le_of_ble_eq_true rfl⟩) hP hD hS hA [0, 5, 6] [1, 2, 3, 4] rfl rfl (by decide) (by decide) (fun r16 u15 H locs hu15 hP hD hS => ?_)
    obtain ⟨p17, rfl, rfl⟩ : ∃ z : Int32 × (Int32 × Int32), r16 = z.1 ∧ u15 = z.2 := ⟨(r16, u15), rfl, rfl⟩
    replace hu15 : p17 = (F_Control_slowDown ((va_up M.1 27 ((M.1 27) + 1)), M.2) ((M.2.2.1 8) (a1).toNatClampNeg) ((M.2.2.1 9) (a1).toNatClampNeg)) := hu15
    have hP : va_P (dC, dI) xcl [(A 6, .inr (3, [.ref (A 7), .ref (A 8), .ref (A 9), .int (M.1 1)])), (A 7, .inl (Z 0, 12, .inl (M.2.2.1 7))), (A 8, .inl (Z 0, 12, .inl (M.2.2.1 8))), (A 9, .inl (Z 0, 12, .inl (M.2.2.1 9))), (A 17, .inr (0, [.ref (A 1), .ref (A 6), .ref (A 11), .ref (A 12), .ref (A 13), .ref (A 18), .ref (A 19), .int (M.1 12), .int (M.1 13), .int (M.1 14), .int (M.1 15), .int (M.1 16), .int ((p17.2).1), .int (M.1 18)])), (A 19, .inr (6, [.long (M.2.1 1), .long (M.2.1 2), .int (M.1 23), .int (M.1 24), .int (M.1 25), .int (M.1 26), .int ((M.1 27) + 1), .int ((p17.2).2)])), (A 11, .inr (7, [.int (M.1 2), .int (M.1 3), .int (M.1 4), .int (M.1 5), .int (M.1 6), .int (M.1 7)]))] H := hP
    have hD : va_D AA [(A 6, .inr (3, [.ref (A 7), .ref (A 8), .ref (A 9), .int (M.1 1)])), (A 7, .inl (Z 0, 12, .inl (M.2.2.1 7))), (A 8, .inl (Z 0, 12, .inl (M.2.2.1 8))), (A 9, .inl (Z 0, 12, .inl (M.2.2.1 9))), (A 17, .inr (0, [.ref (A 1), .ref (A 6), .ref (A 11), .ref (A 12), .ref (A 13), .ref (A 18), .ref (A 19), .int (M.1 12), .int (M.1 13), .int (M.1 14), .int (M.1 15), .int (M.1 16), .int ((p17.2).1), .int (M.1 18)])), (A 19, .inr (6, [.long (M.2.1 1), .long (M.2.1 2), .int (M.1 23), .int (M.1 24), .int (M.1 25), .int (M.1 26), .int ((M.1 27) + 1), .int ((p17.2).2)])), (A 11, .inr (7, [.int (M.1 2), .int (M.1 3), .int (M.1 4), .int (M.1 5), .int (M.1 6), .int (M.1 7)]))] := hD
    have hP9 := hP.sub (ws' := [(A 17, xc17 Z A (ap_Control_segmentIsThrough M (((M.1 27) + 1), ((p17.2).2), (M.1 16), ((p17.2).1)))), (A 6, xc6 Z A (ap_Control_segmentIsThrough M (((M.1 27) + 1), ((p17.2).2), (M.1 16), ((p17.2).1)))), (A 7, xc7 Z A (ap_Control_segmentIsThrough M (((M.1 27) + 1), ((p17.2).2), (M.1 16), ((p17.2).1)))), (A 8, xc8 Z A (ap_Control_segmentIsThrough M (((M.1 27) + 1), ((p17.2).2), (M.1 16), ((p17.2).1)))), (A 9, xc9 Z A (ap_Control_segmentIsThrough M (((M.1 27) + 1), ((p17.2).2), (M.1 16), ((p17.2).1)))), (A 19, xc19 Z A (ap_Control_segmentIsThrough M (((M.1 27) + 1), ((p17.2).2), (M.1 16), ((p17.2).1)))), (A 11, xc11 Z A (ap_Control_segmentIsThrough M (((M.1 27) + 1), ((p17.2).2), (M.1 16), ((p17.2).1))))]) [4, 0, 1, 2, 3, 5, 6] rfl
    have hD9 := hD.sub (ws' := [(A 17, xc17 Z A (ap_Control_segmentIsThrough M (((M.1 27) + 1), ((p17.2).2), (M.1 16), ((p17.2).1)))), (A 6, xc6 Z A (ap_Control_segmentIsThrough M (((M.1 27) + 1), ((p17.2).2), (M.1 16), ((p17.2).1)))), (A 7, xc7 Z A (ap_Control_segmentIsThrough M (((M.1 27) + 1), ((p17.2).2), (M.1 16), ((p17.2).1)))), (A 8, xc8 Z A (ap_Control_segmentIsThrough M (((M.1 27) + 1), ((p17.2).2), (M.1 16), ((p17.2).1)))), (A 9, xc9 Z A (ap_Control_segmentIsThrough M (((M.1 27) + 1), ((p17.2).2), (M.1 16), ((p17.2).1)))), (A 19, xc19 Z A (ap_Control_segmentIsThrough M (((M.1 27) + 1), ((p17.2).2), (M.1 16), ((p17.2).1)))), (A 11, xc11 Z A (ap_Control_segmentIsThrough M (((M.1 27) + 1), ((p17.2).2), (M.1 16), ((p17.2).1))))]) [4, 0, 1, 2, 3, 5, 6] (by decide) rfl
    exact W.zret (ty := .boolean) hx hb hr (xz_nar (by rw [hu15]; exact f01_Control_slowDown ((va_up M.1 27 ((M.1 27) + 1)), M.2) ((M.2.2.1 8) (a1).toNatClampNeg) ((M.2.2.1 9) (a1).toNatClampNeg))) (fun t ht hW => ⟨⟨p17.1, (((M.1 27) + 1), ((p17.2).2), (M.1 16), ((p17.2).1)), rfl, (by rw [F_Control_segmentIsThrough, if_neg h1, if_neg h6, if_neg h10, if_pos h14, ← hu15, F_Control_segmentIsThrough_k18]), xE_at hP9 hK hD9 ht hW⟩, hS.F ht⟩) hS.2.2 d_Control_segmentIsThrough_85
  refine lv_tableOut (tgt := 134) hx hb d_Control_segmentIsThrough_42 (by have q0 := lv_neT (a := 0) h1 (by decide); have q1 := lv_neT (a := 1) h6 (by decide); have q2 := lv_neT (a := 2) h10 (by decide); have q3 := lv_neT (a := 3) h14 (by decide); omega) rfl ?_
  refine lv_aload_n hx hb d_Control_segmentIsThrough_134 rfl (lv_at hl 2 rfl) ?_
  have hPc := hP.sub (ws' := [(A 17, xc17 Z A ((va_up M.1 27 ((M.1 27) + 1)), M.2)), (A 19, xc19 Z A ((va_up M.1 27 ((M.1 27) + 1)), M.2)), (A 11, xc11 Z A ((va_up M.1 27 ((M.1 27) + 1)), M.2))]) [0, 5, 6] rfl
  have hDc := hD.sub (ws' := [(A 17, xc17 Z A ((va_up M.1 27 ((M.1 27) + 1)), M.2)), (A 19, xc19 Z A ((va_up M.1 27 ((M.1 27) + 1)), M.2)), (A 11, xc11 Z A ((va_up M.1 27 ((M.1 27) + 1)), M.2))]) [0, 5, 6] (by decide) rfl
  refine xk_v (wc := [(A 17, xc17 Z A ((va_up M.1 27 ((M.1 27) + 1)), M.2)), (A 19, xc19 Z A ((va_up M.1 27 ((M.1 27) + 1)), M.2)), (A 11, xc11 Z A ((va_up M.1 27 ((M.1 27) + 1)), M.2))]) (wr := [(A 6, .inr (3, [.ref (A 7), .ref (A 8), .ref (A 9), .int (M.1 1)])), (A 7, .inl (Z 0, 12, .inl (M.2.2.1 7))), (A 8, .inl (Z 0, 12, .inl (M.2.2.1 8))), (A 9, .inl (Z 0, 12, .inl (M.2.2.1 9)))]) (va_runV (As := []) (rest := []) ⟨hx, hb, hml, hown, hts⟩ (c_Control_keepToGoal l dC dI Z A _ ((va_up M.1 27 ((M.1 27) + 1)), M.2)) (cwV 0 hts (xw_V _ tw_683 tw_685 tp_9 tw_9 tw_686) rfl rfl rfl (by decide +kernel) ⟨Nat.le_of_ble_eq_true rfl, Nat.le_of_ble_eq_true rfl⟩) ⟨xB_blind, va_recv (q0 := 0) (ci := 0) hK hP rfl rfl, fun U hU hW => ⟨rfl, xB_at hPc hK hDc hq U hU hW⟩⟩ rfl rfl hl.1 rfl (lv_room (Nat.le_of_ble_eq_true rfl)) d_Control_segmentIsThrough_135 ⟨Nat.le_of_ble_eq_true rfl, Nat.le_of_ble_eq_true rfl⟩) hP hD hS hA [0, 5, 6] [1, 2, 3, 4] rfl rfl (by decide) (by decide) (fun u19 H locs hu19 hP hD hS => ?_)
  have hP : va_P (dC, dI) xcl [(A 6, .inr (3, [.ref (A 7), .ref (A 8), .ref (A 9), .int (M.1 1)])), (A 7, .inl (Z 0, 12, .inl (M.2.2.1 7))), (A 8, .inl (Z 0, 12, .inl (M.2.2.1 8))), (A 9, .inl (Z 0, 12, .inl (M.2.2.1 9))), (A 17, .inr (0, [.ref (A 1), .ref (A 6), .ref (A 11), .ref (A 12), .ref (A 13), .ref (A 18), .ref (A 19), .int (M.1 12), .int (M.1 13), .int (M.1 14), .int (M.1 15), .int (u19.1), .int (u19.2), .int (M.1 18)])), (A 19, .inr (6, [.long (M.2.1 1), .long (M.2.1 2), .int (M.1 23), .int (M.1 24), .int (M.1 25), .int (M.1 26), .int ((M.1 27) + 1), .int (M.1 28)])), (A 11, .inr (7, [.int (M.1 2), .int (M.1 3), .int (M.1 4), .int (M.1 5), .int (M.1 6), .int (M.1 7)]))] H := hP
  have hD : va_D AA [(A 6, .inr (3, [.ref (A 7), .ref (A 8), .ref (A 9), .int (M.1 1)])), (A 7, .inl (Z 0, 12, .inl (M.2.2.1 7))), (A 8, .inl (Z 0, 12, .inl (M.2.2.1 8))), (A 9, .inl (Z 0, 12, .inl (M.2.2.1 9))), (A 17, .inr (0, [.ref (A 1), .ref (A 6), .ref (A 11), .ref (A 12), .ref (A 13), .ref (A 18), .ref (A 19), .int (M.1 12), .int (M.1 13), .int (M.1 14), .int (M.1 15), .int (u19.1), .int (u19.2), .int (M.1 18)])), (A 19, .inr (6, [.long (M.2.1 1), .long (M.2.1 2), .int (M.1 23), .int (M.1 24), .int (M.1 25), .int (M.1 26), .int ((M.1 27) + 1), .int (M.1 28)])), (A 11, .inr (7, [.int (M.1 2), .int (M.1 3), .int (M.1 4), .int (M.1 5), .int (M.1 6), .int (M.1 7)]))] := hD
  refine lv_aload_n hx hb d_Control_segmentIsThrough_138 rfl (lv_at hl 2 rfl) ?_
  refine va_get (D := (dC, dI)) (ci := 0) (v := .int (M.1 13)) (C := "CentrifugeUnit$Control") (T := xF0) (N := 14) hx hb htt xin0 hown hK hP 4 rfl rfl 8 (by decide) (htt _ tw_242) (fun _ h9 => h9) rfl d_Control_segmentIsThrough_139 ?_
  refine lv_iload_n hx hb d_Control_segmentIsThrough_142 rfl (lv_at hl 1 rfl) ?_
  refine lv_icmp_gt (tgt := 150) hx hb d_Control_segmentIsThrough_143 rfl (fun h21 => ?_) (fun h21 => ?_)
  · refine lv_iconst (v := 0) hx hb d_Control_segmentIsThrough_150 (by decide) ?_
    have hP9 := hP.sub (ws' := [(A 17, xc17 Z A (ap_Control_segmentIsThrough M (((M.1 27) + 1), (M.1 28), (u19.1), (u19.2)))), (A 6, xc6 Z A (ap_Control_segmentIsThrough M (((M.1 27) + 1), (M.1 28), (u19.1), (u19.2)))), (A 7, xc7 Z A (ap_Control_segmentIsThrough M (((M.1 27) + 1), (M.1 28), (u19.1), (u19.2)))), (A 8, xc8 Z A (ap_Control_segmentIsThrough M (((M.1 27) + 1), (M.1 28), (u19.1), (u19.2)))), (A 9, xc9 Z A (ap_Control_segmentIsThrough M (((M.1 27) + 1), (M.1 28), (u19.1), (u19.2)))), (A 19, xc19 Z A (ap_Control_segmentIsThrough M (((M.1 27) + 1), (M.1 28), (u19.1), (u19.2)))), (A 11, xc11 Z A (ap_Control_segmentIsThrough M (((M.1 27) + 1), (M.1 28), (u19.1), (u19.2))))]) [4, 0, 1, 2, 3, 5, 6] rfl
    have hD9 := hD.sub (ws' := [(A 17, xc17 Z A (ap_Control_segmentIsThrough M (((M.1 27) + 1), (M.1 28), (u19.1), (u19.2)))), (A 6, xc6 Z A (ap_Control_segmentIsThrough M (((M.1 27) + 1), (M.1 28), (u19.1), (u19.2)))), (A 7, xc7 Z A (ap_Control_segmentIsThrough M (((M.1 27) + 1), (M.1 28), (u19.1), (u19.2)))), (A 8, xc8 Z A (ap_Control_segmentIsThrough M (((M.1 27) + 1), (M.1 28), (u19.1), (u19.2)))), (A 9, xc9 Z A (ap_Control_segmentIsThrough M (((M.1 27) + 1), (M.1 28), (u19.1), (u19.2)))), (A 19, xc19 Z A (ap_Control_segmentIsThrough M (((M.1 27) + 1), (M.1 28), (u19.1), (u19.2)))), (A 11, xc11 Z A (ap_Control_segmentIsThrough M (((M.1 27) + 1), (M.1 28), (u19.1), (u19.2))))]) [4, 0, 1, 2, 3, 5, 6] (by decide) rfl
    exact W.zret (ty := .boolean) hx hb hr rfl (fun t ht hW => ⟨⟨0, (((M.1 27) + 1), (M.1 28), (u19.1), (u19.2)), rfl, (by rw [F_Control_segmentIsThrough, if_neg h1, if_neg h6, if_neg h10, if_neg h14, ← hu19, F_Control_segmentIsThrough_k20, if_pos h21]), xE_at hP9 hK hD9 ht hW⟩, hS.F ht⟩) hS.2.2 d_Control_segmentIsThrough_151
  · refine lv_iconst (v := 1) hx hb d_Control_segmentIsThrough_146 (by decide) ?_
    refine lv_goto (tgt := 151) hx hb d_Control_segmentIsThrough_147 rfl ?_
    have hP9 := hP.sub (ws' := [(A 17, xc17 Z A (ap_Control_segmentIsThrough M (((M.1 27) + 1), (M.1 28), (u19.1), (u19.2)))), (A 6, xc6 Z A (ap_Control_segmentIsThrough M (((M.1 27) + 1), (M.1 28), (u19.1), (u19.2)))), (A 7, xc7 Z A (ap_Control_segmentIsThrough M (((M.1 27) + 1), (M.1 28), (u19.1), (u19.2)))), (A 8, xc8 Z A (ap_Control_segmentIsThrough M (((M.1 27) + 1), (M.1 28), (u19.1), (u19.2)))), (A 9, xc9 Z A (ap_Control_segmentIsThrough M (((M.1 27) + 1), (M.1 28), (u19.1), (u19.2)))), (A 19, xc19 Z A (ap_Control_segmentIsThrough M (((M.1 27) + 1), (M.1 28), (u19.1), (u19.2)))), (A 11, xc11 Z A (ap_Control_segmentIsThrough M (((M.1 27) + 1), (M.1 28), (u19.1), (u19.2))))]) [4, 0, 1, 2, 3, 5, 6] rfl
    have hD9 := hD.sub (ws' := [(A 17, xc17 Z A (ap_Control_segmentIsThrough M (((M.1 27) + 1), (M.1 28), (u19.1), (u19.2)))), (A 6, xc6 Z A (ap_Control_segmentIsThrough M (((M.1 27) + 1), (M.1 28), (u19.1), (u19.2)))), (A 7, xc7 Z A (ap_Control_segmentIsThrough M (((M.1 27) + 1), (M.1 28), (u19.1), (u19.2)))), (A 8, xc8 Z A (ap_Control_segmentIsThrough M (((M.1 27) + 1), (M.1 28), (u19.1), (u19.2)))), (A 9, xc9 Z A (ap_Control_segmentIsThrough M (((M.1 27) + 1), (M.1 28), (u19.1), (u19.2)))), (A 19, xc19 Z A (ap_Control_segmentIsThrough M (((M.1 27) + 1), (M.1 28), (u19.1), (u19.2)))), (A 11, xc11 Z A (ap_Control_segmentIsThrough M (((M.1 27) + 1), (M.1 28), (u19.1), (u19.2))))]) [4, 0, 1, 2, 3, 5, 6] (by decide) rfl
    exact W.zret (ty := .boolean) hx hb hr rfl (fun t ht hW => ⟨⟨1, (((M.1 27) + 1), (M.1 28), (u19.1), (u19.2)), rfl, (by rw [F_Control_segmentIsThrough, if_neg h1, if_neg h6, if_neg h10, if_neg h14, ← hu19, F_Control_segmentIsThrough_k20, if_neg h21]), xE_at hP9 hK hD9 ht hW⟩, hS.F ht⟩) hS.2.2 d_Control_segmentIsThrough_151
abbrev bc_Control_followProgram : ByteArray := prog_2_method_13_code
def y_Control_followProgram : MethodName := ⟨"CentrifugeUnit$Control", "followProgram", "()V"⟩
theorem d_Control_followProgram_0 : decode bc_Control_followProgram 0 = .ok (.aload_n 0, 1) := by decide +kernel
theorem d_Control_followProgram_1 : decode bc_Control_followProgram 1 = .ok (.getfield 33, 3) := by decide +kernel
theorem d_Control_followProgram_4 : decode bc_Control_followProgram 4 = .ok (.iconst 1, 1) := by decide +kernel
theorem d_Control_followProgram_5 : decode bc_Control_followProgram 5 = .ok (.if_icmp .eq 4, 3) := by decide +kernel
theorem d_Control_followProgram_8 : decode bc_Control_followProgram 8 = .ok (.return_, 1) := by decide +kernel
theorem d_Control_followProgram_9 : decode bc_Control_followProgram 9 = .ok (.aload_n 0, 1) := by decide +kernel
theorem d_Control_followProgram_10 : decode bc_Control_followProgram 10 = .ok (.getfield 43, 3) := by decide +kernel
theorem d_Control_followProgram_13 : decode bc_Control_followProgram 13 = .ok (.aload_n 0, 1) := by decide +kernel
theorem d_Control_followProgram_14 : decode bc_Control_followProgram 14 = .ok (.getfield 21, 3) := by decide +kernel
theorem d_Control_followProgram_17 : decode bc_Control_followProgram 17 = .ok (.getfield 164, 3) := by decide +kernel
theorem d_Control_followProgram_20 : decode bc_Control_followProgram 20 = .ok (.invokevirtual 167, 3) := by decide +kernel
theorem d_Control_followProgram_23 : decode bc_Control_followProgram 23 = .ok (.ifCond .eq 18, 3) := by decide +kernel
theorem d_Control_followProgram_26 : decode bc_Control_followProgram 26 = .ok (.aload_n 0, 1) := by decide +kernel
theorem d_Control_followProgram_27 : decode bc_Control_followProgram 27 = .ok (.aload_n 0, 1) := by decide +kernel
theorem d_Control_followProgram_28 : decode bc_Control_followProgram 28 = .ok (.getfield 21, 3) := by decide +kernel
theorem d_Control_followProgram_31 : decode bc_Control_followProgram 31 = .ok (.getfield 164, 3) := by decide +kernel
theorem d_Control_followProgram_34 : decode bc_Control_followProgram 34 = .ok (.invokevirtual 173, 3) := by decide +kernel
theorem d_Control_followProgram_37 : decode bc_Control_followProgram 37 = .ok (.ifCond .ne 4, 3) := by decide +kernel
theorem d_Control_followProgram_40 : decode bc_Control_followProgram 40 = .ok (.return_, 1) := by decide +kernel
theorem d_Control_followProgram_41 : decode bc_Control_followProgram 41 = .ok (.aload_n 0, 1) := by decide +kernel
theorem d_Control_followProgram_42 : decode bc_Control_followProgram 42 = .ok (.getfield 21, 3) := by decide +kernel
theorem d_Control_followProgram_45 : decode bc_Control_followProgram 45 = .ok (.invokevirtual 176, 3) := by decide +kernel
theorem d_Control_followProgram_48 : decode bc_Control_followProgram 48 = .ok (.aload_n 0, 1) := by decide +kernel
theorem d_Control_followProgram_49 : decode bc_Control_followProgram 49 = .ok (.getfield 43, 3) := by decide +kernel
theorem d_Control_followProgram_52 : decode bc_Control_followProgram 52 = .ok (.aload_n 0, 1) := by decide +kernel
theorem d_Control_followProgram_53 : decode bc_Control_followProgram 53 = .ok (.getfield 21, 3) := by decide +kernel
theorem d_Control_followProgram_56 : decode bc_Control_followProgram 56 = .ok (.getfield 164, 3) := by decide +kernel
theorem d_Control_followProgram_59 : decode bc_Control_followProgram 59 = .ok (.invokevirtual 167, 3) := by decide +kernel
theorem d_Control_followProgram_62 : decode bc_Control_followProgram 62 = .ok (.ifCond .ne 9, 3) := by decide +kernel
theorem d_Control_followProgram_65 : decode bc_Control_followProgram 65 = .ok (.aload_n 0, 1) := by decide +kernel
theorem d_Control_followProgram_66 : decode bc_Control_followProgram 66 = .ok (.bipush 10, 2) := by decide +kernel
theorem d_Control_followProgram_68 : decode bc_Control_followProgram 68 = .ok (.invokevirtual 179, 3) := by decide +kernel
theorem d_Control_followProgram_71 : decode bc_Control_followProgram 71 = .ok (.return_, 1) := by decide +kernel
abbrev ap_Control_followProgram (M : XM) (u : (Int32 × Int32 × Int32 × Int32 × Int32 × Int32 × Int32)) : XM := ((va_up (va_up (va_up (va_up (va_up (va_up (va_up M.1 26 (u.1)) 27 (u.2.1)) 14 (u.2.2.1)) 15 (u.2.2.2.1)) 28 (u.2.2.2.2.1)) 16 (u.2.2.2.2.2.1)) 17 (u.2.2.2.2.2.2)), M.2)
def F_Control_followProgram_k11 (M : XM) (z2 : Int32) (u5 : (Int32 × Int32)) (z7 : Int32) (u10 : (Int32 × Int32)) : (Int32 × Int32 × Int32 × Int32 × Int32 × Int32 × Int32) := ((u5.1), (u5.2), (u10.1), (u10.2), (M.1 28), (M.1 16), (M.1 17))
def F_Control_followProgram_k8 (M : XM) (z2 : Int32) (u5 : (Int32 × Int32)) (z7 : Int32) : (Int32 × Int32 × Int32 × Int32 × Int32 × Int32 × Int32) := (if z7 = 0 then (F_Control_followProgram_k11 M z2 u5 z7 (F_Control_beginStopping M 10)) else ((u5.1), (u5.2), (M.1 14), (M.1 15), (M.1 28), (M.1 16), (M.1 17)))
def F_Control_followProgram_k6 (M : XM) (z2 : Int32) (u5 : (Int32 × Int32)) : (Int32 × Int32 × Int32 × Int32 × Int32 × Int32 × Int32) := (F_Control_followProgram_k8 M z2 u5 (F_Program_has M (u5.1)))
def F_Control_followProgram_k23 (M : XM) (z2 : Int32) (p14 : Int32 × (Int32 × Int32 × Int32 × Int32)) (u17 : (Int32 × Int32)) (z19 : Int32) (u22 : (Int32 × Int32)) : (Int32 × Int32 × Int32 × Int32 × Int32 × Int32 × Int32) := ((u17.1), (u17.2), (u22.1), (u22.2), ((p14.2).2.1), ((p14.2).2.2.1), ((p14.2).2.2.2))
def F_Control_followProgram_k20 (M : XM) (z2 : Int32) (p14 : Int32 × (Int32 × Int32 × Int32 × Int32)) (u17 : (Int32 × Int32)) (z19 : Int32) : (Int32 × Int32 × Int32 × Int32 × Int32 × Int32 × Int32) := (if z19 = 0 then (F_Control_followProgram_k23 M z2 p14 u17 z19 (F_Control_beginStopping ((va_up (va_up M.1 16 ((p14.2).2.2.1)) 17 ((p14.2).2.2.2)), M.2) 10)) else ((u17.1), (u17.2), (M.1 14), (M.1 15), ((p14.2).2.1), ((p14.2).2.2.1), ((p14.2).2.2.2)))
def F_Control_followProgram_k18 (M : XM) (z2 : Int32) (p14 : Int32 × (Int32 × Int32 × Int32 × Int32)) (u17 : (Int32 × Int32)) : (Int32 × Int32 × Int32 × Int32 × Int32 × Int32 × Int32) := (F_Control_followProgram_k20 M z2 p14 u17 (F_Program_has M (u17.1)))
def F_Control_followProgram_k15 (M : XM) (z2 : Int32) (p14 : Int32 × (Int32 × Int32 × Int32 × Int32)) : (Int32 × Int32 × Int32 × Int32 × Int32 × Int32 × Int32) := (if p14.1 = 0 then ((M.1 26), ((p14.2).1), (M.1 14), (M.1 15), ((p14.2).2.1), ((p14.2).2.2.1), ((p14.2).2.2.2)) else (F_Control_followProgram_k18 M z2 p14 (F_Run_nextSegment ((va_up (va_up M.1 27 ((p14.2).1)) 28 ((p14.2).2.1)), M.2))))
def F_Control_followProgram_k3 (M : XM) (z2 : Int32) : (Int32 × Int32 × Int32 × Int32 × Int32 × Int32 × Int32) := (if z2 = 0 then (F_Control_followProgram_k6 M z2 (F_Run_nextSegment M)) else (F_Control_followProgram_k15 M z2 (F_Control_segmentIsThrough M (M.1 26))))
def F_Control_followProgram (M : XM) : (Int32 × Int32 × Int32 × Int32 × Int32 × Int32 × Int32) := (if (M.1 14) = 1 then (F_Control_followProgram_k3 M (F_Program_has M (M.1 26))) else ((M.1 26), (M.1 27), (M.1 14), (M.1 15), (M.1 28), (M.1 16), (M.1 17)))
set_option maxHeartbeats 4000000 in
set_option maxRecDepth 100000 in
theorem c_Control_followProgram (l : Launch) (dC : Nat → ClassId) (dI : Nat → Nat → Nat) (Z : Nat → ClassId) (A : Nat → Nat) (sz : Nat) (M : XM) (hc : (M.1 1) ≤ 12) : Met l y_Control_followProgram (.code y_Control_followProgram bc_Control_followProgram 1 none :: xw) ({ frames := 4, cells := 0, slots := 0, locals := 91 }) (va_Pc [.ref (A 17)] (xB (dC, dI) xcl (xty Z) sz [(A 17, xc17 Z A M), (A 6, xc6 Z A M), (A 7, xc7 Z A M), (A 8, xc8 Z A M), (A 9, xc9 Z A M), (A 19, xc19 Z A M), (A 11, xc11 Z A M)])) (va_Qv (fun u : (Int32 × Int32 × Int32 × Int32 × Int32 × Int32 × Int32) => u = F_Control_followProgram M) (fun u => xE (dC, dI) xcl (xty Z) (va_A [(A 17, xc17 Z A M), (A 6, xc6 Z A M), (A 7, xc7 Z A M), (A 8, xc8 Z A M), (A 9, xc9 Z A M), (A 19, xc19 Z A M), (A 11, xc11 Z A M)] sz) [(A 17, xc17 Z A (ap_Control_followProgram M u)), (A 6, xc6 Z A (ap_Control_followProgram M u)), (A 7, xc7 Z A (ap_Control_followProgram M u)), (A 8, xc8 Z A (ap_Control_followProgram M u)), (A 9, xc9 Z A (ap_Control_followProgram M u)), (A 19, xc19 Z A (ap_Control_followProgram M u)), (A 11, xc11 Z A (ap_Control_followProgram M u))]) (va_A [(A 17, xc17 Z A M), (A 6, xc6 Z A M), (A 7, xc7 Z A M), (A 8, xc8 Z A M), (A 9, xc9 Z A M), (A 19, xc19 Z A M), (A 11, xc11 Z A M)] sz)) 0 0 (va_A [(A 17, xc17 Z A M), (A 6, xc6 Z A M), (A 7, xc7 Z A M), (A 8, xc8 Z A M), (A 9, xc9 Z A M), (A 19, xc19 Z A M), (A 11, xc11 Z A M)] sz) := by
  refine Met.ofW (cc := bc_Control_followProgram) (maxL := 1) (ret := none) (by decide) rfl ?_
  intro p e s m args below meth c s₁ B hml hv
  obtain ⟨rfl, hsz, hP, hK, hD0, hq⟩ := hv
  have hx := B.exec
  have hb := B.bytes
  have hr := B.returns
  have hts := atoms_spec (ws := (.code y_Control_followProgram bc_Control_followProgram 1 none :: xw)) B.pre
  have htt : ∀ w ∈ xw, w.before _ s = true := fun w h => hts w (List.mem_cons_of_mem _ h)
  have hown : s.vm.findClass "CentrifugeUnit$Control" = some m.cls := findClass_of_methodNamed B.named
  have hlocks := B.notSynchronized
  subst hsz
  have hD := hD0.self (sz := s.heap.size)
  generalize hAe : va_A [(A 17, xc17 Z A M), (A 6, xc6 Z A M), (A 7, xc7 Z A M), (A 8, xc8 Z A M), (A 9, xc9 Z A M), (A 19, xc19 Z A M), (A 11, xc11 Z A M)] s.heap.size = AA at hD ⊢
  have hA : ∀ q : Nat, s.heap.size ≤ q → AA q := fun q h => by rw [← hAe]; exact Or.inr h
  have hS : va_S AA s.heap s.heap [] := va_S.rf
  have hP : va_P (dC, dI) xcl [(A 17, .inr (0, [.ref (A 1), .ref (A 6), .ref (A 11), .ref (A 12), .ref (A 13), .ref (A 18), .ref (A 19), .int (M.1 12), .int (M.1 13), .int (M.1 14), .int (M.1 15), .int (M.1 16), .int (M.1 17), .int (M.1 18)])), (A 6, .inr (3, [.ref (A 7), .ref (A 8), .ref (A 9), .int (M.1 1)])), (A 7, .inl (Z 0, 12, .inl (M.2.2.1 7))), (A 8, .inl (Z 0, 12, .inl (M.2.2.1 8))), (A 9, .inl (Z 0, 12, .inl (M.2.2.1 9))), (A 19, .inr (6, [.long (M.2.1 1), .long (M.2.1 2), .int (M.1 23), .int (M.1 24), .int (M.1 25), .int (M.1 26), .int (M.1 27), .int (M.1 28)])), (A 11, .inr (7, [.int (M.1 2), .int (M.1 3), .int (M.1 4), .int (M.1 5), .int (M.1 6), .int (M.1 7)]))] s.heap := hP
  have hD : va_D AA [(A 17, .inr (0, [.ref (A 1), .ref (A 6), .ref (A 11), .ref (A 12), .ref (A 13), .ref (A 18), .ref (A 19), .int (M.1 12), .int (M.1 13), .int (M.1 14), .int (M.1 15), .int (M.1 16), .int (M.1 17), .int (M.1 18)])), (A 6, .inr (3, [.ref (A 7), .ref (A 8), .ref (A 9), .int (M.1 1)])), (A 7, .inl (Z 0, 12, .inl (M.2.2.1 7))), (A 8, .inl (Z 0, 12, .inl (M.2.2.1 8))), (A 9, .inl (Z 0, 12, .inl (M.2.2.1 9))), (A 19, .inr (6, [.long (M.2.1 1), .long (M.2.1 2), .int (M.1 23), .int (M.1 24), .int (M.1 25), .int (M.1 26), .int (M.1 27), .int (M.1 28)])), (A 11, .inr (7, [.int (M.1 2), .int (M.1 3), .int (M.1 4), .int (M.1 5), .int (M.1 6), .int (M.1 7)]))] := hD
  have hl := lv_entry ([.ref (A 17)]) (n := 1) (Nat.le_of_ble_eq_true rfl)
  rw [lg_entry_eq]
  generalize (lg_sl ([.ref (A 17)]) ++ List.replicate (1 - (lg_sl ([.ref (A 17)])).length) Slot.unset).toArray = ls at hl ⊢
  have hl : lv_has ls 1 [(0, .ref (A 17))] := hl
  refine lv_aload_n hx hb d_Control_followProgram_0 rfl (lv_at hl 0 rfl) ?_
  refine va_get (D := (dC, dI)) (ci := 0) (v := .int (M.1 14)) (C := "CentrifugeUnit$Control") (T := xF0) (N := 14) hx hb htt xin0 hown hK hP 0 rfl rfl 9 (by decide) (htt _ tw_244) (fun _ h9 => h9) rfl d_Control_followProgram_1 ?_
  refine lv_iconst (v := 1) hx hb d_Control_followProgram_4 (by decide) ?_
  refine lv_icmp_eq (tgt := 9) hx hb d_Control_followProgram_5 rfl (fun h1 => ?_) (fun h1 => ?_)
  · refine lv_aload_n hx hb d_Control_followProgram_9 rfl (lv_at hl 0 rfl) ?_
    refine va_get (D := (dC, dI)) (ci := 0) (v := .ref (A 6)) (C := "CentrifugeUnit$Control") (T := xF0) (N := 14) hx hb htt xin0 hown hK hP 0 rfl rfl 1 (by decide) (htt _ tw_232) (fun _ h9 => h9) rfl d_Control_followProgram_10 ?_
    refine lv_aload_n hx hb d_Control_followProgram_13 rfl (lv_at hl 0 rfl) ?_
    refine va_get (D := (dC, dI)) (ci := 0) (v := .ref (A 19)) (C := "CentrifugeUnit$Control") (T := xF0) (N := 14) hx hb htt xin0 hown hK hP 0 rfl rfl 6 (by decide) (htt _ tw_238) (fun _ h9 => h9) rfl d_Control_followProgram_14 ?_
    refine va_get (D := (dC, dI)) (ci := 6) (v := .int (M.1 26)) (C := "CentrifugeUnit$Run") (T := xF6) (N := 8) hx hb htt xin6 hown hK hP 5 rfl rfl 5 (by decide) (htt _ tw_207) (fun _ h9 => h9) rfl d_Control_followProgram_17 ?_
    have hPc := hP.sub (ws' := [(A 6, xc6 Z A M)]) [1] rfl
    have hDc := hD.sub (ws' := [(A 6, xc6 Z A M)]) [1] (by decide) rfl
    refine xk_p (va_runV (As := [.int (M.1 26)]) (rest := []) ⟨hx, hb, hml, hown, hts⟩ (c_Program_has l dC dI Z A _ M (M.1 26)) (cwV 1 hts (xw_V _ tw_665 tw_666 tw_667 tw_4 tw_668) rfl rfl rfl (by decide +kernel) ⟨Nat.le_of_ble_eq_true rfl, Nat.le_of_ble_eq_true rfl⟩) ⟨xB_blind, va_recv (q0 := 1) (ci := 3) hK hP rfl rfl, fun U hU hW => ⟨rfl, xB_at hPc hK hDc hq U hU hW⟩⟩ rfl rfl hl.1 rfl (lv_room (Nat.le_of_ble_eq_true rfl)) d_Control_followProgram_20 ⟨Nat.le_of_ble_eq_true rfl, Nat.le_of_ble_eq_true rfl⟩) ?_
    refine lv_topi (fun z2 hz2 => ?_)
    refine lv_if_eq (tgt := 41) hx hb d_Control_followProgram_23 rfl (fun h4 => ?_) (fun h4 => ?_)
    · refine lv_aload_n hx hb d_Control_followProgram_41 rfl (lv_at hl 0 rfl) ?_
      refine va_get (D := (dC, dI)) (ci := 0) (v := .ref (A 19)) (C := "CentrifugeUnit$Control") (T := xF0) (N := 14) hx hb htt xin0 hown hK hP 0 rfl rfl 6 (by decide) (htt _ tw_238) (fun _ h9 => h9) rfl d_Control_followProgram_42 ?_
      have hPc := hP.sub (ws' := [(A 19, xc19 Z A M)]) [5] rfl
      have hDc := hD.sub (ws' := [(A 19, xc19 Z A M)]) [5] (by decide) rfl
      refine xk_v (wc := [(A 19, xc19 Z A M)]) (wr := [(A 17, .inr (0, [.ref (A 1), .ref (A 6), .ref (A 11), .ref (A 12), .ref (A 13), .ref (A 18), .ref (A 19), .int (M.1 12), .int (M.1 13), .int (M.1 14), .int (M.1 15), .int (M.1 16), .int (M.1 17), .int (M.1 18)])), (A 6, .inr (3, [.ref (A 7), .ref (A 8), .ref (A 9), .int (M.1 1)])), (A 7, .inl (Z 0, 12, .inl (M.2.2.1 7))), (A 8, .inl (Z 0, 12, .inl (M.2.2.1 8))), (A 9, .inl (Z 0, 12, .inl (M.2.2.1 9))), (A 11, .inr (7, [.int (M.1 2), .int (M.1 3), .int (M.1 4), .int (M.1 5), .int (M.1 6), .int (M.1 7)]))]) (va_runV (As := []) (rest := []) ⟨hx, hb, hml, hown, hts⟩ (c_Run_nextSegment l dC dI Z A _ M) (cwV 0 hts (xw_V _ tw_696 tw_697 tw_698 tw_11 tw_699) rfl rfl rfl (by decide +kernel) ⟨Nat.le_of_ble_eq_true rfl, Nat.le_of_ble_eq_true rfl⟩) ⟨xB_blind, va_recv (q0 := 5) (ci := 6) hK hP rfl rfl, fun U hU hW => ⟨rfl, xB_at hPc hK hDc hq U hU hW⟩⟩ rfl rfl hl.1 rfl (lv_room (Nat.le_of_ble_eq_true rfl)) d_Control_followProgram_45 ⟨Nat.le_of_ble_eq_true rfl, Nat.le_of_ble_eq_true rfl⟩) hP hD hS hA [5] [0, 1, 2, 3, 4, 6] rfl rfl (by decide) (by decide) (fun u5 H locs hu5 hP hD hS => ?_)
      have hP : va_P (dC, dI) xcl [(A 17, .inr (0, [.ref (A 1), .ref (A 6), .ref (A 11), .ref (A 12), .ref (A 13), .ref (A 18), .ref (A 19), .int (M.1 12), .int (M.1 13), .int (M.1 14), .int (M.1 15), .int (M.1 16), .int (M.1 17), .int (M.1 18)])), (A 6, .inr (3, [.ref (A 7), .ref (A 8), .ref (A 9), .int (M.1 1)])), (A 7, .inl (Z 0, 12, .inl (M.2.2.1 7))), (A 8, .inl (Z 0, 12, .inl (M.2.2.1 8))), (A 9, .inl (Z 0, 12, .inl (M.2.2.1 9))), (A 11, .inr (7, [.int (M.1 2), .int (M.1 3), .int (M.1 4), .int (M.1 5), .int (M.1 6), .int (M.1 7)])), (A 19, .inr (6, [.long (M.2.1 1), .long (M.2.1 2), .int (M.1 23), .int (M.1 24), .int (M.1 25), .int (u5.1), .int (u5.2), .int (M.1 28)]))] H := hP
      have hD : va_D AA [(A 17, .inr (0, [.ref (A 1), .ref (A 6), .ref (A 11), .ref (A 12), .ref (A 13), .ref (A 18), .ref (A 19), .int (M.1 12), .int (M.1 13), .int (M.1 14), .int (M.1 15), .int (M.1 16), .int (M.1 17), .int (M.1 18)])), (A 6, .inr (3, [.ref (A 7), .ref (A 8), .ref (A 9), .int (M.1 1)])), (A 7, .inl (Z 0, 12, .inl (M.2.2.1 7))), (A 8, .inl (Z 0, 12, .inl (M.2.2.1 8))), (A 9, .inl (Z 0, 12, .inl (M.2.2.1 9))), (A 11, .inr (7, [.int (M.1 2), .int (M.1 3), .int (M.1 4), .int (M.1 5), .int (M.1 6), .int (M.1 7)])), (A 19, .inr (6, [.long (M.2.1 1), .long (M.2.1 2), .int (M.1 23), .int (M.1 24), .int (M.1 25), .int (u5.1), .int (u5.2), .int (M.1 28)]))] := hD
      refine lv_aload_n hx hb d_Control_followProgram_48 rfl (lv_at hl 0 rfl) ?_
      refine va_get (D := (dC, dI)) (ci := 0) (v := .ref (A 6)) (C := "CentrifugeUnit$Control") (T := xF0) (N := 14) hx hb htt xin0 hown hK hP 0 rfl rfl 1 (by decide) (htt _ tw_232) (fun _ h9 => h9) rfl d_Control_followProgram_49 ?_
      refine lv_aload_n hx hb d_Control_followProgram_52 rfl (lv_at hl 0 rfl) ?_
      refine va_get (D := (dC, dI)) (ci := 0) (v := .ref (A 19)) (C := "CentrifugeUnit$Control") (T := xF0) (N := 14) hx hb htt xin0 hown hK hP 0 rfl rfl 6 (by decide) (htt _ tw_238) (fun _ h9 => h9) rfl d_Control_followProgram_53 ?_
      refine va_get (D := (dC, dI)) (ci := 6) (v := .int (u5.1)) (C := "CentrifugeUnit$Run") (T := xF6) (N := 8) hx hb htt xin6 hown hK hP 6 rfl rfl 5 (by decide) (htt _ tw_207) (fun _ h9 => h9) rfl d_Control_followProgram_56 ?_
      have hPc := hP.sub (ws' := [(A 6, xc6 Z A M)]) [1] rfl
      have hDc := hD.sub (ws' := [(A 6, xc6 Z A M)]) [1] (by decide) rfl
      refine xk_p (va_runV (As := [.int (u5.1)]) (rest := []) ⟨hx, hb, hml, hown, hts⟩ (c_Program_has l dC dI Z A _ M (u5.1)) (cwV 1 hts (xw_V _ tw_665 tw_666 tw_667 tw_4 tw_668) rfl rfl rfl (by decide +kernel) ⟨Nat.le_of_ble_eq_true rfl, Nat.le_of_ble_eq_true rfl⟩) ⟨xB_blind, va_recv (q0 := 1) (ci := 3) hK hP rfl rfl, fun U hU hW => ⟨rfl, xB_at hPc hK hDc hq U hU hW⟩⟩ rfl rfl hl.1 rfl (lv_room (Nat.le_of_ble_eq_true rfl)) d_Control_followProgram_59 ⟨Nat.le_of_ble_eq_true rfl, Nat.le_of_ble_eq_true rfl⟩) ?_
      refine lv_topi (fun z7 hz7 => ?_)
      refine lv_if_ne (tgt := 71) hx hb d_Control_followProgram_62 rfl (fun h9 => ?_) (fun h9 => ?_)
      · have hP9 := hP.sub (ws' := [(A 17, xc17 Z A (ap_Control_followProgram M ((u5.1), (u5.2), (M.1 14), (M.1 15), (M.1 28), (M.1 16), (M.1 17)))), (A 6, xc6 Z A (ap_Control_followProgram M ((u5.1), (u5.2), (M.1 14), (M.1 15), (M.1 28), (M.1 16), (M.1 17)))), (A 7, xc7 Z A (ap_Control_followProgram M ((u5.1), (u5.2), (M.1 14), (M.1 15), (M.1 28), (M.1 16), (M.1 17)))), (A 8, xc8 Z A (ap_Control_followProgram M ((u5.1), (u5.2), (M.1 14), (M.1 15), (M.1 28), (M.1 16), (M.1 17)))), (A 9, xc9 Z A (ap_Control_followProgram M ((u5.1), (u5.2), (M.1 14), (M.1 15), (M.1 28), (M.1 16), (M.1 17)))), (A 19, xc19 Z A (ap_Control_followProgram M ((u5.1), (u5.2), (M.1 14), (M.1 15), (M.1 28), (M.1 16), (M.1 17)))), (A 11, xc11 Z A (ap_Control_followProgram M ((u5.1), (u5.2), (M.1 14), (M.1 15), (M.1 28), (M.1 16), (M.1 17))))]) [0, 1, 2, 3, 4, 6, 5] rfl
        have hD9 := hD.sub (ws' := [(A 17, xc17 Z A (ap_Control_followProgram M ((u5.1), (u5.2), (M.1 14), (M.1 15), (M.1 28), (M.1 16), (M.1 17)))), (A 6, xc6 Z A (ap_Control_followProgram M ((u5.1), (u5.2), (M.1 14), (M.1 15), (M.1 28), (M.1 16), (M.1 17)))), (A 7, xc7 Z A (ap_Control_followProgram M ((u5.1), (u5.2), (M.1 14), (M.1 15), (M.1 28), (M.1 16), (M.1 17)))), (A 8, xc8 Z A (ap_Control_followProgram M ((u5.1), (u5.2), (M.1 14), (M.1 15), (M.1 28), (M.1 16), (M.1 17)))), (A 9, xc9 Z A (ap_Control_followProgram M ((u5.1), (u5.2), (M.1 14), (M.1 15), (M.1 28), (M.1 16), (M.1 17)))), (A 19, xc19 Z A (ap_Control_followProgram M ((u5.1), (u5.2), (M.1 14), (M.1 15), (M.1 28), (M.1 16), (M.1 17)))), (A 11, xc11 Z A (ap_Control_followProgram M ((u5.1), (u5.2), (M.1 14), (M.1 15), (M.1 28), (M.1 16), (M.1 17))))]) [0, 1, 2, 3, 4, 6, 5] (by decide) rfl
        exact W.vret hx hb hr (fun t ht hW => ⟨⟨((u5.1), (u5.2), (M.1 14), (M.1 15), (M.1 28), (M.1 16), (M.1 17)), rfl, (by rw [F_Control_followProgram, if_pos h1, ← hz2, F_Control_followProgram_k3, if_pos h4, ← hu5, F_Control_followProgram_k6, ← hz7, F_Control_followProgram_k8, if_neg h9]), xE_at hP9 hK hD9 ht hW⟩, hS.F ht⟩) hS.2.2 d_Control_followProgram_71
      · refine lv_aload_n hx hb d_Control_followProgram_65 rfl (lv_at hl 0 rfl) ?_
        refine lv_bipush (v := 10) hx hb d_Control_followProgram_66 (by decide) ?_
        have hPc := hP.sub (ws' := [(A 17, xc17 Z A M)]) [0] rfl
        have hDc := hD.sub (ws' := [(A 17, xc17 Z A M)]) [0] (by decide) rfl
        refine xk_v (wc := [(A 17, xc17 Z A M)]) (wr := [(A 6, .inr (3, [.ref (A 7), .ref (A 8), .ref (A 9), .int (M.1 1)])), (A 7, .inl (Z 0, 12, .inl (M.2.2.1 7))), (A 8, .inl (Z 0, 12, .inl (M.2.2.1 8))), (A 9, .inl (Z 0, 12, .inl (M.2.2.1 9))), (A 11, .inr (7, [.int (M.1 2), .int (M.1 3), .int (M.1 4), .int (M.1 5), .int (M.1 6), .int (M.1 7)])), (A 19, .inr (6, [.long (M.2.1 1), .long (M.2.1 2), .int (M.1 23), .int (M.1 24), .int (M.1 25), .int (u5.1), .int (u5.2), .int (M.1 28)]))]) (va_runV (As := [.int 10]) (rest := []) ⟨hx, hb, hml, hown, hts⟩ (c_Control_beginStopping l dC dI Z A _ M 10) (cwV 1 hts (xw_V _ tw_700 tw_507 tw_508 tw_9 tw_509) rfl rfl rfl (by decide +kernel) ⟨Nat.le_of_ble_eq_true rfl, Nat.le_of_ble_eq_true rfl⟩) ⟨xB_blind, va_recv (q0 := 0) (ci := 0) hK hP rfl rfl, fun U hU hW => ⟨rfl, xB_at hPc hK hDc hq U hU hW⟩⟩ rfl rfl hl.1 rfl (lv_room (Nat.le_of_ble_eq_true rfl)) d_Control_followProgram_68 ⟨Nat.le_of_ble_eq_true rfl, Nat.le_of_ble_eq_true rfl⟩) hP hD hS hA [0] [1, 2, 3, 4, 5, 6] rfl rfl (by decide) (by decide) (fun u10 H locs hu10 hP hD hS => ?_)
        have hP : va_P (dC, dI) xcl [(A 6, .inr (3, [.ref (A 7), .ref (A 8), .ref (A 9), .int (M.1 1)])), (A 7, .inl (Z 0, 12, .inl (M.2.2.1 7))), (A 8, .inl (Z 0, 12, .inl (M.2.2.1 8))), (A 9, .inl (Z 0, 12, .inl (M.2.2.1 9))), (A 11, .inr (7, [.int (M.1 2), .int (M.1 3), .int (M.1 4), .int (M.1 5), .int (M.1 6), .int (M.1 7)])), (A 19, .inr (6, [.long (M.2.1 1), .long (M.2.1 2), .int (M.1 23), .int (M.1 24), .int (M.1 25), .int (u5.1), .int (u5.2), .int (M.1 28)])), (A 17, .inr (0, [.ref (A 1), .ref (A 6), .ref (A 11), .ref (A 12), .ref (A 13), .ref (A 18), .ref (A 19), .int (M.1 12), .int (M.1 13), .int (u10.1), .int (u10.2), .int (M.1 16), .int (M.1 17), .int (M.1 18)]))] H := hP
        have hD : va_D AA [(A 6, .inr (3, [.ref (A 7), .ref (A 8), .ref (A 9), .int (M.1 1)])), (A 7, .inl (Z 0, 12, .inl (M.2.2.1 7))), (A 8, .inl (Z 0, 12, .inl (M.2.2.1 8))), (A 9, .inl (Z 0, 12, .inl (M.2.2.1 9))), (A 11, .inr (7, [.int (M.1 2), .int (M.1 3), .int (M.1 4), .int (M.1 5), .int (M.1 6), .int (M.1 7)])), (A 19, .inr (6, [.long (M.2.1 1), .long (M.2.1 2), .int (M.1 23), .int (M.1 24), .int (M.1 25), .int (u5.1), .int (u5.2), .int (M.1 28)])), (A 17, .inr (0, [.ref (A 1), .ref (A 6), .ref (A 11), .ref (A 12), .ref (A 13), .ref (A 18), .ref (A 19), .int (M.1 12), .int (M.1 13), .int (u10.1), .int (u10.2), .int (M.1 16), .int (M.1 17), .int (M.1 18)]))] := hD
        have hP9 := hP.sub (ws' := [(A 17, xc17 Z A (ap_Control_followProgram M ((u5.1), (u5.2), (u10.1), (u10.2), (M.1 28), (M.1 16), (M.1 17)))), (A 6, xc6 Z A (ap_Control_followProgram M ((u5.1), (u5.2), (u10.1), (u10.2), (M.1 28), (M.1 16), (M.1 17)))), (A 7, xc7 Z A (ap_Control_followProgram M ((u5.1), (u5.2), (u10.1), (u10.2), (M.1 28), (M.1 16), (M.1 17)))), (A 8, xc8 Z A (ap_Control_followProgram M ((u5.1), (u5.2), (u10.1), (u10.2), (M.1 28), (M.1 16), (M.1 17)))), (A 9, xc9 Z A (ap_Control_followProgram M ((u5.1), (u5.2), (u10.1), (u10.2), (M.1 28), (M.1 16), (M.1 17)))), (A 19, xc19 Z A (ap_Control_followProgram M ((u5.1), (u5.2), (u10.1), (u10.2), (M.1 28), (M.1 16), (M.1 17)))), (A 11, xc11 Z A (ap_Control_followProgram M ((u5.1), (u5.2), (u10.1), (u10.2), (M.1 28), (M.1 16), (M.1 17))))]) [6, 0, 1, 2, 3, 5, 4] rfl
        have hD9 := hD.sub (ws' := [(A 17, xc17 Z A (ap_Control_followProgram M ((u5.1), (u5.2), (u10.1), (u10.2), (M.1 28), (M.1 16), (M.1 17)))), (A 6, xc6 Z A (ap_Control_followProgram M ((u5.1), (u5.2), (u10.1), (u10.2), (M.1 28), (M.1 16), (M.1 17)))), (A 7, xc7 Z A (ap_Control_followProgram M ((u5.1), (u5.2), (u10.1), (u10.2), (M.1 28), (M.1 16), (M.1 17)))), (A 8, xc8 Z A (ap_Control_followProgram M ((u5.1), (u5.2), (u10.1), (u10.2), (M.1 28), (M.1 16), (M.1 17)))), (A 9, xc9 Z A (ap_Control_followProgram M ((u5.1), (u5.2), (u10.1), (u10.2), (M.1 28), (M.1 16), (M.1 17)))), (A 19, xc19 Z A (ap_Control_followProgram M ((u5.1), (u5.2), (u10.1), (u10.2), (M.1 28), (M.1 16), (M.1 17)))), (A 11, xc11 Z A (ap_Control_followProgram M ((u5.1), (u5.2), (u10.1), (u10.2), (M.1 28), (M.1 16), (M.1 17))))]) [6, 0, 1, 2, 3, 5, 4] (by decide) rfl
        exact W.vret hx hb hr (fun t ht hW => ⟨⟨((u5.1), (u5.2), (u10.1), (u10.2), (M.1 28), (M.1 16), (M.1 17)), rfl, (by rw [F_Control_followProgram, if_pos h1, ← hz2, F_Control_followProgram_k3, if_pos h4, ← hu5, F_Control_followProgram_k6, ← hz7, F_Control_followProgram_k8, if_pos h9, ← hu10, F_Control_followProgram_k11]), xE_at hP9 hK hD9 ht hW⟩, hS.F ht⟩) hS.2.2 d_Control_followProgram_71
    · refine lv_aload_n hx hb d_Control_followProgram_26 rfl (lv_at hl 0 rfl) ?_
      refine lv_aload_n hx hb d_Control_followProgram_27 rfl (lv_at hl 0 rfl) ?_
      refine va_get (D := (dC, dI)) (ci := 0) (v := .ref (A 19)) (C := "CentrifugeUnit$Control") (T := xF0) (N := 14) hx hb htt xin0 hown hK hP 0 rfl rfl 6 (by decide) (htt _ tw_238) (fun _ h9 => h9) rfl d_Control_followProgram_28 ?_
      refine va_get (D := (dC, dI)) (ci := 6) (v := .int (M.1 26)) (C := "CentrifugeUnit$Run") (T := xF6) (N := 8) hx hb htt xin6 hown hK hP 5 rfl rfl 5 (by decide) (htt _ tw_207) (fun _ h9 => h9) rfl d_Control_followProgram_31 ?_
      have hPc := hP.sub (ws' := [(A 17, xc17 Z A M), (A 6, xc6 Z A M), (A 7, xc7 Z A M), (A 8, xc8 Z A M), (A 9, xc9 Z A M), (A 19, xc19 Z A M), (A 11, xc11 Z A M)]) [0, 1, 2, 3, 4, 5, 6] rfl
      have hDc := hD.sub (ws' := [(A 17, xc17 Z A M), (A 6, xc6 Z A M), (A 7, xc7 Z A M), (A 8, xc8 Z A M), (A 9, xc9 Z A M), (A 19, xc19 Z A M), (A 11, xc11 Z A M)]) [0, 1, 2, 3, 4, 5, 6] (by decide) rfl
      refine xk_i (wc := [(A 17, xc17 Z A M), (A 6, xc6 Z A M), (A 7, xc7 Z A M), (A 8, xc8 Z A M), (A 9, xc9 Z A M), (A 19, xc19 Z A M), (A 11, xc11 Z A M)]) (wr := []) (va_runV (As := [.int (M.1 26)]) (rest := []) ⟨hx, hb, hml, hown, hts⟩ (c_Control_segmentIsThrough l dC dI Z A _ M (M.1 26) (xhas h4 hz2 hc)) (cwV 1 hts (xw_V _ tw_669 tw_671 tp_7 tw_9 tw_672) rfl rfl rfl (by decide +kernel) ⟨Nat.le_of_ble_eq_true rfl, Nat.le_of_ble_eq_true rfl⟩) ⟨xB_blind, va_recv (q0 := 0) (ci := 0) hK hP rfl rfl, fun U hU hW => ⟨rfl, xB_at hPc hK hDc hq U hU hW⟩⟩ rfl rfl hl.1 rfl (lv_room (Nat.le_of_ble_eq_true rfl)) d_Control_followProgram_34 ⟨Nat.le_of_ble_eq_true rfl, Nat.le_of_ble_eq_true rfl⟩) hP hD hS hA [0, 1, 2, 3, 4, 5, 6] [] rfl rfl (by decide) (by decide) (fun r13 u12 H locs hu12 hP hD hS => ?_)
      obtain ⟨p14, rfl, rfl⟩ : ∃ z : Int32 × (Int32 × Int32 × Int32 × Int32), r13 = z.1 ∧ u12 = z.2 := ⟨(r13, u12), rfl, rfl⟩
      replace hu12 : p14 = (F_Control_segmentIsThrough M (M.1 26)) := hu12
      have hP : va_P (dC, dI) xcl [(A 17, .inr (0, [.ref (A 1), .ref (A 6), .ref (A 11), .ref (A 12), .ref (A 13), .ref (A 18), .ref (A 19), .int (M.1 12), .int (M.1 13), .int (M.1 14), .int (M.1 15), .int ((p14.2).2.2.1), .int ((p14.2).2.2.2), .int (M.1 18)])), (A 6, .inr (3, [.ref (A 7), .ref (A 8), .ref (A 9), .int (M.1 1)])), (A 7, .inl (Z 0, 12, .inl (M.2.2.1 7))), (A 8, .inl (Z 0, 12, .inl (M.2.2.1 8))), (A 9, .inl (Z 0, 12, .inl (M.2.2.1 9))), (A 19, .inr (6, [.long (M.2.1 1), .long (M.2.1 2), .int (M.1 23), .int (M.1 24), .int (M.1 25), .int (M.1 26), .int ((p14.2).1), .int ((p14.2).2.1)])), (A 11, .inr (7, [.int (M.1 2), .int (M.1 3), .int (M.1 4), .int (M.1 5), .int (M.1 6), .int (M.1 7)]))] H := hP
      have hD : va_D AA [(A 17, .inr (0, [.ref (A 1), .ref (A 6), .ref (A 11), .ref (A 12), .ref (A 13), .ref (A 18), .ref (A 19), .int (M.1 12), .int (M.1 13), .int (M.1 14), .int (M.1 15), .int ((p14.2).2.2.1), .int ((p14.2).2.2.2), .int (M.1 18)])), (A 6, .inr (3, [.ref (A 7), .ref (A 8), .ref (A 9), .int (M.1 1)])), (A 7, .inl (Z 0, 12, .inl (M.2.2.1 7))), (A 8, .inl (Z 0, 12, .inl (M.2.2.1 8))), (A 9, .inl (Z 0, 12, .inl (M.2.2.1 9))), (A 19, .inr (6, [.long (M.2.1 1), .long (M.2.1 2), .int (M.1 23), .int (M.1 24), .int (M.1 25), .int (M.1 26), .int ((p14.2).1), .int ((p14.2).2.1)])), (A 11, .inr (7, [.int (M.1 2), .int (M.1 3), .int (M.1 4), .int (M.1 5), .int (M.1 6), .int (M.1 7)]))] := hD
      refine lv_if_ne (tgt := 41) hx hb d_Control_followProgram_37 rfl (fun h16 => ?_) (fun h16 => ?_)
      · refine lv_aload_n hx hb d_Control_followProgram_41 rfl (lv_at hl 0 rfl) ?_
        refine va_get (D := (dC, dI)) (ci := 0) (v := .ref (A 19)) (C := "CentrifugeUnit$Control") (T := xF0) (N := 14) hx hb htt xin0 hown hK hP 0 rfl rfl 6 (by decide) (htt _ tw_238) (fun _ h9 => h9) rfl d_Control_followProgram_42 ?_
        have hPc := hP.sub (ws' := [(A 19, xc19 Z A ((va_up (va_up M.1 27 ((p14.2).1)) 28 ((p14.2).2.1)), M.2))]) [5] rfl
        have hDc := hD.sub (ws' := [(A 19, xc19 Z A ((va_up (va_up M.1 27 ((p14.2).1)) 28 ((p14.2).2.1)), M.2))]) [5] (by decide) rfl
        refine xk_v (wc := [(A 19, xc19 Z A ((va_up (va_up M.1 27 ((p14.2).1)) 28 ((p14.2).2.1)), M.2))]) (wr := [(A 17, .inr (0, [.ref (A 1), .ref (A 6), .ref (A 11), .ref (A 12), .ref (A 13), .ref (A 18), .ref (A 19), .int (M.1 12), .int (M.1 13), .int (M.1 14), .int (M.1 15), .int ((p14.2).2.2.1), .int ((p14.2).2.2.2), .int (M.1 18)])), (A 6, .inr (3, [.ref (A 7), .ref (A 8), .ref (A 9), .int (M.1 1)])), (A 7, .inl (Z 0, 12, .inl (M.2.2.1 7))), (A 8, .inl (Z 0, 12, .inl (M.2.2.1 8))), (A 9, .inl (Z 0, 12, .inl (M.2.2.1 9))), (A 11, .inr (7, [.int (M.1 2), .int (M.1 3), .int (M.1 4), .int (M.1 5), .int (M.1 6), .int (M.1 7)]))]) (va_runV (As := []) (rest := []) ⟨hx, hb, hml, hown, hts⟩ (c_Run_nextSegment l dC dI Z A _ ((va_up (va_up M.1 27 ((p14.2).1)) 28 ((p14.2).2.1)), M.2)) (cwV 0 hts (xw_V _ tw_696 tw_697 tw_698 tw_11 tw_699) rfl rfl rfl (by decide +kernel) ⟨Nat.le_of_ble_eq_true rfl, Nat.le_of_ble_eq_true rfl⟩) ⟨xB_blind, va_recv (q0 := 5) (ci := 6) hK hP rfl rfl, fun U hU hW => ⟨rfl, xB_at hPc hK hDc hq U hU hW⟩⟩ rfl rfl hl.1 rfl (lv_room (Nat.le_of_ble_eq_true rfl)) d_Control_followProgram_45 ⟨Nat.le_of_ble_eq_true rfl, Nat.le_of_ble_eq_true rfl⟩) hP hD hS hA [5] [0, 1, 2, 3, 4, 6] rfl rfl (by decide) (by decide) (fun u17 H locs hu17 hP hD hS => ?_)
        have hP : va_P (dC, dI) xcl [(A 17, .inr (0, [.ref (A 1), .ref (A 6), .ref (A 11), .ref (A 12), .ref (A 13), .ref (A 18), .ref (A 19), .int (M.1 12), .int (M.1 13), .int (M.1 14), .int (M.1 15), .int ((p14.2).2.2.1), .int ((p14.2).2.2.2), .int (M.1 18)])), (A 6, .inr (3, [.ref (A 7), .ref (A 8), .ref (A 9), .int (M.1 1)])), (A 7, .inl (Z 0, 12, .inl (M.2.2.1 7))), (A 8, .inl (Z 0, 12, .inl (M.2.2.1 8))), (A 9, .inl (Z 0, 12, .inl (M.2.2.1 9))), (A 11, .inr (7, [.int (M.1 2), .int (M.1 3), .int (M.1 4), .int (M.1 5), .int (M.1 6), .int (M.1 7)])), (A 19, .inr (6, [.long (M.2.1 1), .long (M.2.1 2), .int (M.1 23), .int (M.1 24), .int (M.1 25), .int (u17.1), .int (u17.2), .int ((p14.2).2.1)]))] H := hP
        have hD : va_D AA [(A 17, .inr (0, [.ref (A 1), .ref (A 6), .ref (A 11), .ref (A 12), .ref (A 13), .ref (A 18), .ref (A 19), .int (M.1 12), .int (M.1 13), .int (M.1 14), .int (M.1 15), .int ((p14.2).2.2.1), .int ((p14.2).2.2.2), .int (M.1 18)])), (A 6, .inr (3, [.ref (A 7), .ref (A 8), .ref (A 9), .int (M.1 1)])), (A 7, .inl (Z 0, 12, .inl (M.2.2.1 7))), (A 8, .inl (Z 0, 12, .inl (M.2.2.1 8))), (A 9, .inl (Z 0, 12, .inl (M.2.2.1 9))), (A 11, .inr (7, [.int (M.1 2), .int (M.1 3), .int (M.1 4), .int (M.1 5), .int (M.1 6), .int (M.1 7)])), (A 19, .inr (6, [.long (M.2.1 1), .long (M.2.1 2), .int (M.1 23), .int (M.1 24), .int (M.1 25), .int (u17.1), .int (u17.2), .int ((p14.2).2.1)]))] := hD
        refine lv_aload_n hx hb d_Control_followProgram_48 rfl (lv_at hl 0 rfl) ?_
        refine va_get (D := (dC, dI)) (ci := 0) (v := .ref (A 6)) (C := "CentrifugeUnit$Control") (T := xF0) (N := 14) hx hb htt xin0 hown hK hP 0 rfl rfl 1 (by decide) (htt _ tw_232) (fun _ h9 => h9) rfl d_Control_followProgram_49 ?_
        refine lv_aload_n hx hb d_Control_followProgram_52 rfl (lv_at hl 0 rfl) ?_
        refine va_get (D := (dC, dI)) (ci := 0) (v := .ref (A 19)) (C := "CentrifugeUnit$Control") (T := xF0) (N := 14) hx hb htt xin0 hown hK hP 0 rfl rfl 6 (by decide) (htt _ tw_238) (fun _ h9 => h9) rfl d_Control_followProgram_53 ?_
        refine va_get (D := (dC, dI)) (ci := 6) (v := .int (u17.1)) (C := "CentrifugeUnit$Run") (T := xF6) (N := 8) hx hb htt xin6 hown hK hP 6 rfl rfl 5 (by decide) (htt _ tw_207) (fun _ h9 => h9) rfl d_Control_followProgram_56 ?_
        have hPc := hP.sub (ws' := [(A 6, xc6 Z A M)]) [1] rfl
        have hDc := hD.sub (ws' := [(A 6, xc6 Z A M)]) [1] (by decide) rfl
        refine xk_p (va_runV (As := [.int (u17.1)]) (rest := []) ⟨hx, hb, hml, hown, hts⟩ (c_Program_has l dC dI Z A _ M (u17.1)) (cwV 1 hts (xw_V _ tw_665 tw_666 tw_667 tw_4 tw_668) rfl rfl rfl (by decide +kernel) ⟨Nat.le_of_ble_eq_true rfl, Nat.le_of_ble_eq_true rfl⟩) ⟨xB_blind, va_recv (q0 := 1) (ci := 3) hK hP rfl rfl, fun U hU hW => ⟨rfl, xB_at hPc hK hDc hq U hU hW⟩⟩ rfl rfl hl.1 rfl (lv_room (Nat.le_of_ble_eq_true rfl)) d_Control_followProgram_59 ⟨Nat.le_of_ble_eq_true rfl, Nat.le_of_ble_eq_true rfl⟩) ?_
        refine lv_topi (fun z19 hz19 => ?_)
        refine lv_if_ne (tgt := 71) hx hb d_Control_followProgram_62 rfl (fun h21 => ?_) (fun h21 => ?_)
        · have hP9 := hP.sub (ws' := [(A 17, xc17 Z A (ap_Control_followProgram M ((u17.1), (u17.2), (M.1 14), (M.1 15), ((p14.2).2.1), ((p14.2).2.2.1), ((p14.2).2.2.2)))), (A 6, xc6 Z A (ap_Control_followProgram M ((u17.1), (u17.2), (M.1 14), (M.1 15), ((p14.2).2.1), ((p14.2).2.2.1), ((p14.2).2.2.2)))), (A 7, xc7 Z A (ap_Control_followProgram M ((u17.1), (u17.2), (M.1 14), (M.1 15), ((p14.2).2.1), ((p14.2).2.2.1), ((p14.2).2.2.2)))), (A 8, xc8 Z A (ap_Control_followProgram M ((u17.1), (u17.2), (M.1 14), (M.1 15), ((p14.2).2.1), ((p14.2).2.2.1), ((p14.2).2.2.2)))), (A 9, xc9 Z A (ap_Control_followProgram M ((u17.1), (u17.2), (M.1 14), (M.1 15), ((p14.2).2.1), ((p14.2).2.2.1), ((p14.2).2.2.2)))), (A 19, xc19 Z A (ap_Control_followProgram M ((u17.1), (u17.2), (M.1 14), (M.1 15), ((p14.2).2.1), ((p14.2).2.2.1), ((p14.2).2.2.2)))), (A 11, xc11 Z A (ap_Control_followProgram M ((u17.1), (u17.2), (M.1 14), (M.1 15), ((p14.2).2.1), ((p14.2).2.2.1), ((p14.2).2.2.2))))]) [0, 1, 2, 3, 4, 6, 5] rfl
          have hD9 := hD.sub (ws' := [(A 17, xc17 Z A (ap_Control_followProgram M ((u17.1), (u17.2), (M.1 14), (M.1 15), ((p14.2).2.1), ((p14.2).2.2.1), ((p14.2).2.2.2)))), (A 6, xc6 Z A (ap_Control_followProgram M ((u17.1), (u17.2), (M.1 14), (M.1 15), ((p14.2).2.1), ((p14.2).2.2.1), ((p14.2).2.2.2)))), (A 7, xc7 Z A (ap_Control_followProgram M ((u17.1), (u17.2), (M.1 14), (M.1 15), ((p14.2).2.1), ((p14.2).2.2.1), ((p14.2).2.2.2)))), (A 8, xc8 Z A (ap_Control_followProgram M ((u17.1), (u17.2), (M.1 14), (M.1 15), ((p14.2).2.1), ((p14.2).2.2.1), ((p14.2).2.2.2)))), (A 9, xc9 Z A (ap_Control_followProgram M ((u17.1), (u17.2), (M.1 14), (M.1 15), ((p14.2).2.1), ((p14.2).2.2.1), ((p14.2).2.2.2)))), (A 19, xc19 Z A (ap_Control_followProgram M ((u17.1), (u17.2), (M.1 14), (M.1 15), ((p14.2).2.1), ((p14.2).2.2.1), ((p14.2).2.2.2)))), (A 11, xc11 Z A (ap_Control_followProgram M ((u17.1), (u17.2), (M.1 14), (M.1 15), ((p14.2).2.1), ((p14.2).2.2.1), ((p14.2).2.2.2))))]) [0, 1, 2, 3, 4, 6, 5] (by decide) rfl
          exact W.vret hx hb hr (fun t ht hW => ⟨⟨((u17.1), (u17.2), (M.1 14), (M.1 15), ((p14.2).2.1), ((p14.2).2.2.1), ((p14.2).2.2.2)), rfl, (by rw [F_Control_followProgram, if_pos h1, ← hz2, F_Control_followProgram_k3, if_neg h4, ← hu12, F_Control_followProgram_k15, if_neg h16, ← hu17, F_Control_followProgram_k18, ← hz19, F_Control_followProgram_k20, if_neg h21]), xE_at hP9 hK hD9 ht hW⟩, hS.F ht⟩) hS.2.2 d_Control_followProgram_71
        · refine lv_aload_n hx hb d_Control_followProgram_65 rfl (lv_at hl 0 rfl) ?_
          refine lv_bipush (v := 10) hx hb d_Control_followProgram_66 (by decide) ?_
          have hPc := hP.sub (ws' := [(A 17, xc17 Z A ((va_up (va_up M.1 16 ((p14.2).2.2.1)) 17 ((p14.2).2.2.2)), M.2))]) [0] rfl
          have hDc := hD.sub (ws' := [(A 17, xc17 Z A ((va_up (va_up M.1 16 ((p14.2).2.2.1)) 17 ((p14.2).2.2.2)), M.2))]) [0] (by decide) rfl
          refine xk_v (wc := [(A 17, xc17 Z A ((va_up (va_up M.1 16 ((p14.2).2.2.1)) 17 ((p14.2).2.2.2)), M.2))]) (wr := [(A 6, .inr (3, [.ref (A 7), .ref (A 8), .ref (A 9), .int (M.1 1)])), (A 7, .inl (Z 0, 12, .inl (M.2.2.1 7))), (A 8, .inl (Z 0, 12, .inl (M.2.2.1 8))), (A 9, .inl (Z 0, 12, .inl (M.2.2.1 9))), (A 11, .inr (7, [.int (M.1 2), .int (M.1 3), .int (M.1 4), .int (M.1 5), .int (M.1 6), .int (M.1 7)])), (A 19, .inr (6, [.long (M.2.1 1), .long (M.2.1 2), .int (M.1 23), .int (M.1 24), .int (M.1 25), .int (u17.1), .int (u17.2), .int ((p14.2).2.1)]))]) (va_runV (As := [.int 10]) (rest := []) ⟨hx, hb, hml, hown, hts⟩ (c_Control_beginStopping l dC dI Z A _ ((va_up (va_up M.1 16 ((p14.2).2.2.1)) 17 ((p14.2).2.2.2)), M.2) 10) (cwV 1 hts (xw_V _ tw_700 tw_507 tw_508 tw_9 tw_509) rfl rfl rfl (by decide +kernel) ⟨Nat.le_of_ble_eq_true rfl, Nat.le_of_ble_eq_true rfl⟩) ⟨xB_blind, va_recv (q0 := 0) (ci := 0) hK hP rfl rfl, fun U hU hW => ⟨rfl, xB_at hPc hK hDc hq U hU hW⟩⟩ rfl rfl hl.1 rfl (lv_room (Nat.le_of_ble_eq_true rfl)) d_Control_followProgram_68 ⟨Nat.le_of_ble_eq_true rfl, Nat.le_of_ble_eq_true rfl⟩) hP hD hS hA [0] [1, 2, 3, 4, 5, 6] rfl rfl (by decide) (by decide) (fun u22 H locs hu22 hP hD hS => ?_)
          have hP : va_P (dC, dI) xcl [(A 6, .inr (3, [.ref (A 7), .ref (A 8), .ref (A 9), .int (M.1 1)])), (A 7, .inl (Z 0, 12, .inl (M.2.2.1 7))), (A 8, .inl (Z 0, 12, .inl (M.2.2.1 8))), (A 9, .inl (Z 0, 12, .inl (M.2.2.1 9))), (A 11, .inr (7, [.int (M.1 2), .int (M.1 3), .int (M.1 4), .int (M.1 5), .int (M.1 6), .int (M.1 7)])), (A 19, .inr (6, [.long (M.2.1 1), .long (M.2.1 2), .int (M.1 23), .int (M.1 24), .int (M.1 25), .int (u17.1), .int (u17.2), .int ((p14.2).2.1)])), (A 17, .inr (0, [.ref (A 1), .ref (A 6), .ref (A 11), .ref (A 12), .ref (A 13), .ref (A 18), .ref (A 19), .int (M.1 12), .int (M.1 13), .int (u22.1), .int (u22.2), .int ((p14.2).2.2.1), .int ((p14.2).2.2.2), .int (M.1 18)]))] H := hP
          have hD : va_D AA [(A 6, .inr (3, [.ref (A 7), .ref (A 8), .ref (A 9), .int (M.1 1)])), (A 7, .inl (Z 0, 12, .inl (M.2.2.1 7))), (A 8, .inl (Z 0, 12, .inl (M.2.2.1 8))), (A 9, .inl (Z 0, 12, .inl (M.2.2.1 9))), (A 11, .inr (7, [.int (M.1 2), .int (M.1 3), .int (M.1 4), .int (M.1 5), .int (M.1 6), .int (M.1 7)])), (A 19, .inr (6, [.long (M.2.1 1), .long (M.2.1 2), .int (M.1 23), .int (M.1 24), .int (M.1 25), .int (u17.1), .int (u17.2), .int ((p14.2).2.1)])), (A 17, .inr (0, [.ref (A 1), .ref (A 6), .ref (A 11), .ref (A 12), .ref (A 13), .ref (A 18), .ref (A 19), .int (M.1 12), .int (M.1 13), .int (u22.1), .int (u22.2), .int ((p14.2).2.2.1), .int ((p14.2).2.2.2), .int (M.1 18)]))] := hD
          have hP9 := hP.sub (ws' := [(A 17, xc17 Z A (ap_Control_followProgram M ((u17.1), (u17.2), (u22.1), (u22.2), ((p14.2).2.1), ((p14.2).2.2.1), ((p14.2).2.2.2)))), (A 6, xc6 Z A (ap_Control_followProgram M ((u17.1), (u17.2), (u22.1), (u22.2), ((p14.2).2.1), ((p14.2).2.2.1), ((p14.2).2.2.2)))), (A 7, xc7 Z A (ap_Control_followProgram M ((u17.1), (u17.2), (u22.1), (u22.2), ((p14.2).2.1), ((p14.2).2.2.1), ((p14.2).2.2.2)))), (A 8, xc8 Z A (ap_Control_followProgram M ((u17.1), (u17.2), (u22.1), (u22.2), ((p14.2).2.1), ((p14.2).2.2.1), ((p14.2).2.2.2)))), (A 9, xc9 Z A (ap_Control_followProgram M ((u17.1), (u17.2), (u22.1), (u22.2), ((p14.2).2.1), ((p14.2).2.2.1), ((p14.2).2.2.2)))), (A 19, xc19 Z A (ap_Control_followProgram M ((u17.1), (u17.2), (u22.1), (u22.2), ((p14.2).2.1), ((p14.2).2.2.1), ((p14.2).2.2.2)))), (A 11, xc11 Z A (ap_Control_followProgram M ((u17.1), (u17.2), (u22.1), (u22.2), ((p14.2).2.1), ((p14.2).2.2.1), ((p14.2).2.2.2))))]) [6, 0, 1, 2, 3, 5, 4] rfl
          have hD9 := hD.sub (ws' := [(A 17, xc17 Z A (ap_Control_followProgram M ((u17.1), (u17.2), (u22.1), (u22.2), ((p14.2).2.1), ((p14.2).2.2.1), ((p14.2).2.2.2)))), (A 6, xc6 Z A (ap_Control_followProgram M ((u17.1), (u17.2), (u22.1), (u22.2), ((p14.2).2.1), ((p14.2).2.2.1), ((p14.2).2.2.2)))), (A 7, xc7 Z A (ap_Control_followProgram M ((u17.1), (u17.2), (u22.1), (u22.2), ((p14.2).2.1), ((p14.2).2.2.1), ((p14.2).2.2.2)))), (A 8, xc8 Z A (ap_Control_followProgram M ((u17.1), (u17.2), (u22.1), (u22.2), ((p14.2).2.1), ((p14.2).2.2.1), ((p14.2).2.2.2)))), (A 9, xc9 Z A (ap_Control_followProgram M ((u17.1), (u17.2), (u22.1), (u22.2), ((p14.2).2.1), ((p14.2).2.2.1), ((p14.2).2.2.2)))), (A 19, xc19 Z A (ap_Control_followProgram M ((u17.1), (u17.2), (u22.1), (u22.2), ((p14.2).2.1), ((p14.2).2.2.1), ((p14.2).2.2.2)))), (A 11, xc11 Z A (ap_Control_followProgram M ((u17.1), (u17.2), (u22.1), (u22.2), ((p14.2).2.1), ((p14.2).2.2.1), ((p14.2).2.2.2))))]) [6, 0, 1, 2, 3, 5, 4] (by decide) rfl
          exact W.vret hx hb hr (fun t ht hW => ⟨⟨((u17.1), (u17.2), (u22.1), (u22.2), ((p14.2).2.1), ((p14.2).2.2.1), ((p14.2).2.2.2)), rfl, (by rw [F_Control_followProgram, if_pos h1, ← hz2, F_Control_followProgram_k3, if_neg h4, ← hu12, F_Control_followProgram_k15, if_neg h16, ← hu17, F_Control_followProgram_k18, ← hz19, F_Control_followProgram_k20, if_pos h21, ← hu22, F_Control_followProgram_k23]), xE_at hP9 hK hD9 ht hW⟩, hS.F ht⟩) hS.2.2 d_Control_followProgram_71
      · have hP9 := hP.sub (ws' := [(A 17, xc17 Z A (ap_Control_followProgram M ((M.1 26), ((p14.2).1), (M.1 14), (M.1 15), ((p14.2).2.1), ((p14.2).2.2.1), ((p14.2).2.2.2)))), (A 6, xc6 Z A (ap_Control_followProgram M ((M.1 26), ((p14.2).1), (M.1 14), (M.1 15), ((p14.2).2.1), ((p14.2).2.2.1), ((p14.2).2.2.2)))), (A 7, xc7 Z A (ap_Control_followProgram M ((M.1 26), ((p14.2).1), (M.1 14), (M.1 15), ((p14.2).2.1), ((p14.2).2.2.1), ((p14.2).2.2.2)))), (A 8, xc8 Z A (ap_Control_followProgram M ((M.1 26), ((p14.2).1), (M.1 14), (M.1 15), ((p14.2).2.1), ((p14.2).2.2.1), ((p14.2).2.2.2)))), (A 9, xc9 Z A (ap_Control_followProgram M ((M.1 26), ((p14.2).1), (M.1 14), (M.1 15), ((p14.2).2.1), ((p14.2).2.2.1), ((p14.2).2.2.2)))), (A 19, xc19 Z A (ap_Control_followProgram M ((M.1 26), ((p14.2).1), (M.1 14), (M.1 15), ((p14.2).2.1), ((p14.2).2.2.1), ((p14.2).2.2.2)))), (A 11, xc11 Z A (ap_Control_followProgram M ((M.1 26), ((p14.2).1), (M.1 14), (M.1 15), ((p14.2).2.1), ((p14.2).2.2.1), ((p14.2).2.2.2))))]) [0, 1, 2, 3, 4, 5, 6] rfl
        have hD9 := hD.sub (ws' := [(A 17, xc17 Z A (ap_Control_followProgram M ((M.1 26), ((p14.2).1), (M.1 14), (M.1 15), ((p14.2).2.1), ((p14.2).2.2.1), ((p14.2).2.2.2)))), (A 6, xc6 Z A (ap_Control_followProgram M ((M.1 26), ((p14.2).1), (M.1 14), (M.1 15), ((p14.2).2.1), ((p14.2).2.2.1), ((p14.2).2.2.2)))), (A 7, xc7 Z A (ap_Control_followProgram M ((M.1 26), ((p14.2).1), (M.1 14), (M.1 15), ((p14.2).2.1), ((p14.2).2.2.1), ((p14.2).2.2.2)))), (A 8, xc8 Z A (ap_Control_followProgram M ((M.1 26), ((p14.2).1), (M.1 14), (M.1 15), ((p14.2).2.1), ((p14.2).2.2.1), ((p14.2).2.2.2)))), (A 9, xc9 Z A (ap_Control_followProgram M ((M.1 26), ((p14.2).1), (M.1 14), (M.1 15), ((p14.2).2.1), ((p14.2).2.2.1), ((p14.2).2.2.2)))), (A 19, xc19 Z A (ap_Control_followProgram M ((M.1 26), ((p14.2).1), (M.1 14), (M.1 15), ((p14.2).2.1), ((p14.2).2.2.1), ((p14.2).2.2.2)))), (A 11, xc11 Z A (ap_Control_followProgram M ((M.1 26), ((p14.2).1), (M.1 14), (M.1 15), ((p14.2).2.1), ((p14.2).2.2.1), ((p14.2).2.2.2))))]) [0, 1, 2, 3, 4, 5, 6] (by decide) rfl
        exact W.vret hx hb hr (fun t ht hW => ⟨⟨((M.1 26), ((p14.2).1), (M.1 14), (M.1 15), ((p14.2).2.1), ((p14.2).2.2.1), ((p14.2).2.2.2)), rfl, (by rw [F_Control_followProgram, if_pos h1, ← hz2, F_Control_followProgram_k3, if_neg h4, ← hu12, F_Control_followProgram_k15, if_pos h16]), xE_at hP9 hK hD9 ht hW⟩, hS.F ht⟩) hS.2.2 d_Control_followProgram_40
  · have hP9 := hP.sub (ws' := [(A 17, xc17 Z A (ap_Control_followProgram M ((M.1 26), (M.1 27), (M.1 14), (M.1 15), (M.1 28), (M.1 16), (M.1 17)))), (A 6, xc6 Z A (ap_Control_followProgram M ((M.1 26), (M.1 27), (M.1 14), (M.1 15), (M.1 28), (M.1 16), (M.1 17)))), (A 7, xc7 Z A (ap_Control_followProgram M ((M.1 26), (M.1 27), (M.1 14), (M.1 15), (M.1 28), (M.1 16), (M.1 17)))), (A 8, xc8 Z A (ap_Control_followProgram M ((M.1 26), (M.1 27), (M.1 14), (M.1 15), (M.1 28), (M.1 16), (M.1 17)))), (A 9, xc9 Z A (ap_Control_followProgram M ((M.1 26), (M.1 27), (M.1 14), (M.1 15), (M.1 28), (M.1 16), (M.1 17)))), (A 19, xc19 Z A (ap_Control_followProgram M ((M.1 26), (M.1 27), (M.1 14), (M.1 15), (M.1 28), (M.1 16), (M.1 17)))), (A 11, xc11 Z A (ap_Control_followProgram M ((M.1 26), (M.1 27), (M.1 14), (M.1 15), (M.1 28), (M.1 16), (M.1 17))))]) [0, 1, 2, 3, 4, 5, 6] rfl
    have hD9 := hD.sub (ws' := [(A 17, xc17 Z A (ap_Control_followProgram M ((M.1 26), (M.1 27), (M.1 14), (M.1 15), (M.1 28), (M.1 16), (M.1 17)))), (A 6, xc6 Z A (ap_Control_followProgram M ((M.1 26), (M.1 27), (M.1 14), (M.1 15), (M.1 28), (M.1 16), (M.1 17)))), (A 7, xc7 Z A (ap_Control_followProgram M ((M.1 26), (M.1 27), (M.1 14), (M.1 15), (M.1 28), (M.1 16), (M.1 17)))), (A 8, xc8 Z A (ap_Control_followProgram M ((M.1 26), (M.1 27), (M.1 14), (M.1 15), (M.1 28), (M.1 16), (M.1 17)))), (A 9, xc9 Z A (ap_Control_followProgram M ((M.1 26), (M.1 27), (M.1 14), (M.1 15), (M.1 28), (M.1 16), (M.1 17)))), (A 19, xc19 Z A (ap_Control_followProgram M ((M.1 26), (M.1 27), (M.1 14), (M.1 15), (M.1 28), (M.1 16), (M.1 17)))), (A 11, xc11 Z A (ap_Control_followProgram M ((M.1 26), (M.1 27), (M.1 14), (M.1 15), (M.1 28), (M.1 16), (M.1 17))))]) [0, 1, 2, 3, 4, 5, 6] (by decide) rfl
    exact W.vret hx hb hr (fun t ht hW => ⟨⟨((M.1 26), (M.1 27), (M.1 14), (M.1 15), (M.1 28), (M.1 16), (M.1 17)), rfl, (by rw [F_Control_followProgram, if_neg h1]), xE_at hP9 hK hD9 ht hW⟩, hS.F ht⟩) hS.2.2 d_Control_followProgram_8
abbrev bc_Control_order : ByteArray := prog_2_method_7_code
def y_Control_order : MethodName := ⟨"CentrifugeUnit$Control", "order", "(LCentrifugeUnit$Model;)V"⟩
theorem d_Control_order_0 : decode bc_Control_order 0 = .ok (.aload_n 0, 1) := by decide +kernel
theorem d_Control_order_1 : decode bc_Control_order 1 = .ok (.iconst 0, 1) := by decide +kernel
theorem d_Control_order_2 : decode bc_Control_order 2 = .ok (.putfield 65, 3) := by decide +kernel
theorem d_Control_order_5 : decode bc_Control_order 5 = .ok (.aload_n 0, 1) := by decide +kernel
theorem d_Control_order_6 : decode bc_Control_order 6 = .ok (.iconst 0, 1) := by decide +kernel
theorem d_Control_order_7 : decode bc_Control_order 7 = .ok (.putfield 68, 3) := by decide +kernel
theorem d_Control_order_10 : decode bc_Control_order 10 = .ok (.aload_n 0, 1) := by decide +kernel
theorem d_Control_order_11 : decode bc_Control_order 11 = .ok (.iconst 0, 1) := by decide +kernel
theorem d_Control_order_12 : decode bc_Control_order 12 = .ok (.putfield 71, 3) := by decide +kernel
theorem d_Control_order_15 : decode bc_Control_order 15 = .ok (.aload_n 0, 1) := by decide +kernel
theorem d_Control_order_16 : decode bc_Control_order 16 = .ok (.getfield 25, 3) := by decide +kernel
theorem d_Control_order_19 : decode bc_Control_order 19 = .ok (.ifCond .ne 4, 3) := by decide +kernel
theorem d_Control_order_22 : decode bc_Control_order 22 = .ok (.return_, 1) := by decide +kernel
theorem d_Control_order_23 : decode bc_Control_order 23 = .ok (.aload_n 0, 1) := by decide +kernel
theorem d_Control_order_24 : decode bc_Control_order 24 = .ok (.aload_n 1, 1) := by decide +kernel
theorem d_Control_order_25 : decode bc_Control_order 25 = .ok (.invokevirtual 74, 3) := by decide +kernel
theorem d_Control_order_28 : decode bc_Control_order 28 = .ok (.aload_n 0, 1) := by decide +kernel
theorem d_Control_order_29 : decode bc_Control_order 29 = .ok (.invokevirtual 78, 3) := by decide +kernel
theorem d_Control_order_32 : decode bc_Control_order 32 = .ok (.aload_n 0, 1) := by decide +kernel
theorem d_Control_order_33 : decode bc_Control_order 33 = .ok (.invokevirtual 81, 3) := by decide +kernel
theorem d_Control_order_36 : decode bc_Control_order 36 = .ok (.aload_n 0, 1) := by decide +kernel
theorem d_Control_order_37 : decode bc_Control_order 37 = .ok (.invokevirtual 84, 3) := by decide +kernel
theorem d_Control_order_40 : decode bc_Control_order 40 = .ok (.aload_n 0, 1) := by decide +kernel
theorem d_Control_order_41 : decode bc_Control_order 41 = .ok (.invokevirtual 87, 3) := by decide +kernel
theorem d_Control_order_44 : decode bc_Control_order 44 = .ok (.aload_n 0, 1) := by decide +kernel
theorem d_Control_order_45 : decode bc_Control_order 45 = .ok (.aload_n 0, 1) := by decide +kernel
theorem d_Control_order_46 : decode bc_Control_order 46 = .ok (.getfield 51, 3) := by decide +kernel
theorem d_Control_order_49 : decode bc_Control_order 49 = .ok (.invokevirtual 90, 3) := by decide +kernel
theorem d_Control_order_52 : decode bc_Control_order 52 = .ok (.putfield 71, 3) := by decide +kernel
theorem d_Control_order_55 : decode bc_Control_order 55 = .ok (.return_, 1) := by decide +kernel
abbrev ap_Control_order (M : XM) (u : (Int32 × Int32 × Int32 × Int32 × Int32 × Int32 × Int32 × Int32 × Int32 × Int32 × Int64 × Int32 × Int32 × Int32 × Int32 × Int32 × Int64 × Int32 × Int32 × Int32 × (Nat → Int32) × (Nat → Int64) × (Nat → Int32) × Int32 × Int32)) : XM := ((va_up (va_up (va_up (va_up (va_up (va_up (va_up (va_up (va_up (va_up (va_up (va_up (va_up (va_up (va_up (va_up (va_up (va_up (va_up (va_up M.1 16 (u.1)) 17 (u.2.1)) 18 (u.2.2.1)) 4 (u.2.2.2.1)) 5 (u.2.2.2.2.1)) 6 (u.2.2.2.2.2.1)) 7 (u.2.2.2.2.2.2.1)) 20 (u.2.2.2.2.2.2.2.1)) 21 (u.2.2.2.2.2.2.2.2.1)) 22 (u.2.2.2.2.2.2.2.2.2.1)) 24 (u.2.2.2.2.2.2.2.2.2.2.2.1)) 23 (u.2.2.2.2.2.2.2.2.2.2.2.2.1)) 25 (u.2.2.2.2.2.2.2.2.2.2.2.2.2.1)) 14 (u.2.2.2.2.2.2.2.2.2.2.2.2.2.2.1)) 15 (u.2.2.2.2.2.2.2.2.2.2.2.2.2.2.2.1)) 26 (u.2.2.2.2.2.2.2.2.2.2.2.2.2.2.2.2.2.1)) 27 (u.2.2.2.2.2.2.2.2.2.2.2.2.2.2.2.2.2.2.1)) 28 (u.2.2.2.2.2.2.2.2.2.2.2.2.2.2.2.2.2.2.2.1)) 11 (u.2.2.2.2.2.2.2.2.2.2.2.2.2.2.2.2.2.2.2.2.2.2.2.1)) 10 (u.2.2.2.2.2.2.2.2.2.2.2.2.2.2.2.2.2.2.2.2.2.2.2.2)), (va_up (va_up M.2.1 2 (u.2.2.2.2.2.2.2.2.2.2.1)) 1 (u.2.2.2.2.2.2.2.2.2.2.2.2.2.2.2.2.1)), (va_up (va_up M.2.2.1 14 (u.2.2.2.2.2.2.2.2.2.2.2.2.2.2.2.2.2.2.2.2.1)) 16 (u.2.2.2.2.2.2.2.2.2.2.2.2.2.2.2.2.2.2.2.2.2.2.1)), (va_up M.2.2.2 15 (u.2.2.2.2.2.2.2.2.2.2.2.2.2.2.2.2.2.2.2.2.2.1)))
def F_Control_order_k15 (M : XM) (u2 : (Int32 × Int32 × Int32 × Int32 × Int32 × Int32 × Int32 × Int64 × Int32 × Int32 × Int32)) (u4 : (Int32 × Int32)) (u6 : Int64) (u8 : (Int32 × Int32 × Int32 × Int32 × Int32 × Int32 × Int32)) (u10 : (Int32 × Int32 × (Nat → Int32) × (Nat → Int64) × (Nat → Int32) × Int32 × Int32)) (p14 : Int32 × Int32) : (Int32 × Int32 × Int32 × Int32 × Int32 × Int32 × Int32 × Int32 × Int32 × Int32 × Int64 × Int32 × Int32 × Int32 × Int32 × Int32 × Int64 × Int32 × Int32 × Int32 × (Nat → Int32) × (Nat → Int64) × (Nat → Int32) × Int32 × Int32) := ((u10.1), (u10.2.1), p14.1, (u2.1), (u2.2.1), (u2.2.2.1), (u2.2.2.2.1), (u2.2.2.2.2.1), (u2.2.2.2.2.2.1), (u2.2.2.2.2.2.2.1), (u2.2.2.2.2.2.2.2.1), (u2.2.2.2.2.2.2.2.2.1), (u2.2.2.2.2.2.2.2.2.2.1), (u2.2.2.2.2.2.2.2.2.2.2), (u10.2.2.2.2.2.2), (u8.2.2.2.1), u6, (u8.1), (u8.2.1), (u8.2.2.2.2.1), (u10.2.2.1), (u10.2.2.2.1), (u10.2.2.2.2.1), (u10.2.2.2.2.2.1), (p14.2))
def F_Control_order_k11 (M : XM) (u2 : (Int32 × Int32 × Int32 × Int32 × Int32 × Int32 × Int32 × Int64 × Int32 × Int32 × Int32)) (u4 : (Int32 × Int32)) (u6 : Int64) (u8 : (Int32 × Int32 × Int32 × Int32 × Int32 × Int32 × Int32)) (u10 : (Int32 × Int32 × (Nat → Int32) × (Nat → Int64) × (Nat → Int32) × Int32 × Int32)) : (Int32 × Int32 × Int32 × Int32 × Int32 × Int32 × Int32 × Int32 × Int32 × Int32 × Int64 × Int32 × Int32 × Int32 × Int32 × Int32 × Int64 × Int32 × Int32 × Int32 × (Nat → Int32) × (Nat → Int64) × (Nat → Int32) × Int32 × Int32) := (F_Control_order_k15 M u2 u4 u6 u8 u10 (F_Lid_feedCoil M))
def F_Control_order_k9 (M : XM) (u2 : (Int32 × Int32 × Int32 × Int32 × Int32 × Int32 × Int32 × Int64 × Int32 × Int32 × Int32)) (u4 : (Int32 × Int32)) (u6 : Int64) (u8 : (Int32 × Int32 × Int32 × Int32 × Int32 × Int32 × Int32)) : (Int32 × Int32 × Int32 × Int32 × Int32 × Int32 × Int32 × Int32 × Int32 × Int32 × Int64 × Int32 × Int32 × Int32 × Int32 × Int32 × Int64 × Int32 × Int32 × Int32 × (Nat → Int32) × (Nat → Int64) × (Nat → Int32) × Int32 × Int32) := (F_Control_order_k11 M u2 u4 u6 u8 (F_Control_comeToRest ((va_up (va_up (va_up (va_up (va_up (va_up (va_up (va_up (va_up (va_up (va_up (va_up (va_up (va_up M.1 18 0) 20 (u2.2.2.2.2.1)) 21 (u2.2.2.2.2.2.1)) 22 (u2.2.2.2.2.2.2.1)) 24 (u2.2.2.2.2.2.2.2.2.1)) 23 (u2.2.2.2.2.2.2.2.2.2.1)) 25 (u2.2.2.2.2.2.2.2.2.2.2)) 26 (u8.1)) 27 (u8.2.1)) 14 (u8.2.2.1)) 15 (u8.2.2.2.1)) 28 (u8.2.2.2.2.1)) 16 (u8.2.2.2.2.2.1)) 17 (u8.2.2.2.2.2.2)), (va_up (va_up M.2.1 2 (u2.2.2.2.2.2.2.2.1)) 1 u6), M.2.2)))
def F_Control_order_k7 (M : XM) (u2 : (Int32 × Int32 × Int32 × Int32 × Int32 × Int32 × Int32 × Int64 × Int32 × Int32 × Int32)) (u4 : (Int32 × Int32)) (u6 : Int64) : (Int32 × Int32 × Int32 × Int32 × Int32 × Int32 × Int32 × Int32 × Int32 × Int32 × Int64 × Int32 × Int32 × Int32 × Int32 × Int32 × Int64 × Int32 × Int32 × Int32 × (Nat → Int32) × (Nat → Int64) × (Nat → Int32) × Int32 × Int32) := (F_Control_order_k9 M u2 u4 u6 (F_Control_followProgram ((va_up (va_up (va_up (va_up (va_up (va_up (va_up (va_up (va_up (va_up (va_up (va_up M.1 16 0) 17 0) 18 0) 4 (u2.1)) 5 (u2.2.1)) 6 (u2.2.2.1)) 7 (u2.2.2.2.1)) 24 (u2.2.2.2.2.2.2.2.2.1)) 23 (u2.2.2.2.2.2.2.2.2.2.1)) 25 (u2.2.2.2.2.2.2.2.2.2.2)) 14 (u4.1)) 15 (u4.2)), (va_up (va_up M.2.1 2 (u2.2.2.2.2.2.2.2.1)) 1 u6), M.2.2)))
def F_Control_order_k5 (M : XM) (u2 : (Int32 × Int32 × Int32 × Int32 × Int32 × Int32 × Int32 × Int64 × Int32 × Int32 × Int32)) (u4 : (Int32 × Int32)) : (Int32 × Int32 × Int32 × Int32 × Int32 × Int32 × Int32 × Int32 × Int32 × Int32 × Int64 × Int32 × Int32 × Int32 × Int32 × Int32 × Int64 × Int32 × Int32 × Int32 × (Nat → Int32) × (Nat → Int64) × (Nat → Int32) × Int32 × Int32) := (F_Control_order_k7 M u2 u4 (F_Control_addDose ((va_up (va_up (va_up (va_up (va_up (va_up (va_up (va_up (va_up (va_up (va_up (va_up M.1 16 0) 17 0) 18 0) 4 (u2.1)) 5 (u2.2.1)) 6 (u2.2.2.1)) 7 (u2.2.2.2.1)) 24 (u2.2.2.2.2.2.2.2.2.1)) 23 (u2.2.2.2.2.2.2.2.2.2.1)) 25 (u2.2.2.2.2.2.2.2.2.2.2)) 14 (u4.1)) 15 (u4.2)), (va_up M.2.1 2 (u2.2.2.2.2.2.2.2.1)), M.2.2)))
def F_Control_order_k3 (M : XM) (u2 : (Int32 × Int32 × Int32 × Int32 × Int32 × Int32 × Int32 × Int64 × Int32 × Int32 × Int32)) : (Int32 × Int32 × Int32 × Int32 × Int32 × Int32 × Int32 × Int32 × Int32 × Int32 × Int64 × Int32 × Int32 × Int32 × Int32 × Int32 × Int64 × Int32 × Int32 × Int32 × (Nat → Int32) × (Nat → Int64) × (Nat → Int32) × Int32 × Int32) := (F_Control_order_k5 M u2 (F_Control_lookForFault ((va_up (va_up (va_up (va_up (va_up (va_up (va_up (va_up (va_up (va_up (va_up (va_up (va_up M.1 16 0) 17 0) 18 0) 4 (u2.1)) 5 (u2.2.1)) 6 (u2.2.2.1)) 7 (u2.2.2.2.1)) 20 (u2.2.2.2.2.1)) 21 (u2.2.2.2.2.2.1)) 22 (u2.2.2.2.2.2.2.1)) 24 (u2.2.2.2.2.2.2.2.2.1)) 23 (u2.2.2.2.2.2.2.2.2.2.1)) 25 (u2.2.2.2.2.2.2.2.2.2.2)), (va_up M.2.1 2 (u2.2.2.2.2.2.2.2.1)), M.2.2)))
def F_Control_order (M : XM) : (Int32 × Int32 × Int32 × Int32 × Int32 × Int32 × Int32 × Int32 × Int32 × Int32 × Int64 × Int32 × Int32 × Int32 × Int32 × Int32 × Int64 × Int32 × Int32 × Int32 × (Nat → Int32) × (Nat → Int64) × (Nat → Int32) × Int32 × Int32) := (if (M.1 12) = 0 then (0, 0, 0, (M.1 4), (M.1 5), (M.1 6), (M.1 7), (M.1 20), (M.1 21), (M.1 22), (M.2.1 2), (M.1 24), (M.1 23), (M.1 25), (M.1 14), (M.1 15), (M.2.1 1), (M.1 26), (M.1 27), (M.1 28), (M.2.2.1 14), (M.2.2.2 15), (M.2.2.1 16), (M.1 11), (M.1 10)) else (F_Control_order_k3 M (F_Control_readSensors ((va_up (va_up (va_up M.1 16 0) 17 0) 18 0), M.2))))
set_option maxHeartbeats 4000000 in
set_option maxRecDepth 100000 in
theorem c_Control_order (l : Launch) (dC : Nat → ClassId) (dI : Nat → Nat → Nat) (Z : Nat → ClassId) (A : Nat → Nat) (sz : Nat) (M : XM) (hc : (M.1 1) ≤ 12) : Met l y_Control_order (.code y_Control_order bc_Control_order 2 none :: xw) ({ frames := 5, cells := 0, slots := 0, locals := 111 }) (va_Pc [.ref (A 17), .ref (A 10)] (xB (dC, dI) xcl (xty Z) sz [(A 17, xc17 Z A M), (A 10, xc10 Z A M), (A 11, xc11 Z A M), (A 18, xc18 Z A M), (A 19, xc19 Z A M), (A 1, xc1 Z A M), (A 2, xc2 Z A M), (A 12, xc12 Z A M), (A 4, xc4 Z A M), (A 3, xc3 Z A M), (A 6, xc6 Z A M), (A 7, xc7 Z A M), (A 8, xc8 Z A M), (A 9, xc9 Z A M), (A 13, xc13 Z A M), (A 14, xc14 Z A M), (A 15, xc15 Z A M), (A 16, xc16 Z A M)])) (va_Qv (fun u : (Int32 × Int32 × Int32 × Int32 × Int32 × Int32 × Int32 × Int32 × Int32 × Int32 × Int64 × Int32 × Int32 × Int32 × Int32 × Int32 × Int64 × Int32 × Int32 × Int32 × (Nat → Int32) × (Nat → Int64) × (Nat → Int32) × Int32 × Int32) => u = F_Control_order M) (fun u => xE (dC, dI) xcl (xty Z) (va_A [(A 17, xc17 Z A M), (A 10, xc10 Z A M), (A 11, xc11 Z A M), (A 18, xc18 Z A M), (A 19, xc19 Z A M), (A 1, xc1 Z A M), (A 2, xc2 Z A M), (A 12, xc12 Z A M), (A 4, xc4 Z A M), (A 3, xc3 Z A M), (A 6, xc6 Z A M), (A 7, xc7 Z A M), (A 8, xc8 Z A M), (A 9, xc9 Z A M), (A 13, xc13 Z A M), (A 14, xc14 Z A M), (A 15, xc15 Z A M), (A 16, xc16 Z A M)] sz) [(A 17, xc17 Z A (ap_Control_order M u)), (A 10, xc10 Z A (ap_Control_order M u)), (A 11, xc11 Z A (ap_Control_order M u)), (A 18, xc18 Z A (ap_Control_order M u)), (A 19, xc19 Z A (ap_Control_order M u)), (A 1, xc1 Z A (ap_Control_order M u)), (A 2, xc2 Z A (ap_Control_order M u)), (A 12, xc12 Z A (ap_Control_order M u)), (A 4, xc4 Z A (ap_Control_order M u)), (A 3, xc3 Z A (ap_Control_order M u)), (A 6, xc6 Z A (ap_Control_order M u)), (A 7, xc7 Z A (ap_Control_order M u)), (A 8, xc8 Z A (ap_Control_order M u)), (A 9, xc9 Z A (ap_Control_order M u)), (A 13, xc13 Z A (ap_Control_order M u)), (A 14, xc14 Z A (ap_Control_order M u)), (A 15, xc15 Z A (ap_Control_order M u)), (A 16, xc16 Z A (ap_Control_order M u))]) (va_A [(A 17, xc17 Z A M), (A 10, xc10 Z A M), (A 11, xc11 Z A M), (A 18, xc18 Z A M), (A 19, xc19 Z A M), (A 1, xc1 Z A M), (A 2, xc2 Z A M), (A 12, xc12 Z A M), (A 4, xc4 Z A M), (A 3, xc3 Z A M), (A 6, xc6 Z A M), (A 7, xc7 Z A M), (A 8, xc8 Z A M), (A 9, xc9 Z A M), (A 13, xc13 Z A M), (A 14, xc14 Z A M), (A 15, xc15 Z A M), (A 16, xc16 Z A M)] sz)) 0 0 (va_A [(A 17, xc17 Z A M), (A 10, xc10 Z A M), (A 11, xc11 Z A M), (A 18, xc18 Z A M), (A 19, xc19 Z A M), (A 1, xc1 Z A M), (A 2, xc2 Z A M), (A 12, xc12 Z A M), (A 4, xc4 Z A M), (A 3, xc3 Z A M), (A 6, xc6 Z A M), (A 7, xc7 Z A M), (A 8, xc8 Z A M), (A 9, xc9 Z A M), (A 13, xc13 Z A M), (A 14, xc14 Z A M), (A 15, xc15 Z A M), (A 16, xc16 Z A M)] sz) := by
  refine Met.ofW (cc := bc_Control_order) (maxL := 2) (ret := none) (by decide) rfl ?_
  intro p e s m args below meth c s₁ B hml hv
  obtain ⟨rfl, hsz, hP, hK, hD0, hq⟩ := hv
  have hx := B.exec
  have hb := B.bytes
  have hr := B.returns
  have hts := atoms_spec (ws := (.code y_Control_order bc_Control_order 2 none :: xw)) B.pre
  have htt : ∀ w ∈ xw, w.before _ s = true := fun w h => hts w (List.mem_cons_of_mem _ h)
  have hown : s.vm.findClass "CentrifugeUnit$Control" = some m.cls := findClass_of_methodNamed B.named
  have hlocks := B.notSynchronized
  subst hsz
  have hD := hD0.self (sz := s.heap.size)
  generalize hAe : va_A [(A 17, xc17 Z A M), (A 10, xc10 Z A M), (A 11, xc11 Z A M), (A 18, xc18 Z A M), (A 19, xc19 Z A M), (A 1, xc1 Z A M), (A 2, xc2 Z A M), (A 12, xc12 Z A M), (A 4, xc4 Z A M), (A 3, xc3 Z A M), (A 6, xc6 Z A M), (A 7, xc7 Z A M), (A 8, xc8 Z A M), (A 9, xc9 Z A M), (A 13, xc13 Z A M), (A 14, xc14 Z A M), (A 15, xc15 Z A M), (A 16, xc16 Z A M)] s.heap.size = AA at hD ⊢
  have hA : ∀ q : Nat, s.heap.size ≤ q → AA q := fun q h => by rw [← hAe]; exact Or.inr h
  have hS : va_S AA s.heap s.heap [] := va_S.rf
  have hP : va_P (dC, dI) xcl [(A 17, .inr (0, [.ref (A 1), .ref (A 6), .ref (A 11), .ref (A 12), .ref (A 13), .ref (A 18), .ref (A 19), .int (M.1 12), .int (M.1 13), .int (M.1 14), .int (M.1 15), .int (M.1 16), .int (M.1 17), .int (M.1 18)])), (A 10, .inr (2, [.long (M.2.1 0)])), (A 11, .inr (7, [.int (M.1 2), .int (M.1 3), .int (M.1 4), .int (M.1 5), .int (M.1 6), .int (M.1 7)])), (A 18, .inr (8, [.int (M.1 19), .int (M.1 20), .int (M.1 21), .int (M.1 22)])), (A 19, .inr (6, [.long (M.2.1 1), .long (M.2.1 2), .int (M.1 23), .int (M.1 24), .int (M.1 25), .int (M.1 26), .int (M.1 27), .int (M.1 28)])), (A 1, .inr (5, [.ref (A 2), .ref (A 3), .ref (A 4), .ref (A 5), .int (M.1 0)])), (A 2, .inl (Z 0, 4, .inl (M.2.2.1 2))), (A 12, .inr (1, [.int (M.1 8), .int (M.1 9), .int (M.1 10)])), (A 4, .inl (Z 0, 4, .inl (M.2.2.1 4))), (A 3, .inl (Z 0, 4, .inl (M.2.2.1 3))), (A 6, .inr (3, [.ref (A 7), .ref (A 8), .ref (A 9), .int (M.1 1)])), (A 7, .inl (Z 0, 12, .inl (M.2.2.1 7))), (A 8, .inl (Z 0, 12, .inl (M.2.2.1 8))), (A 9, .inl (Z 0, 12, .inl (M.2.2.1 9))), (A 13, .inr (4, [.ref (A 14), .ref (A 15), .ref (A 16), .int (M.1 11)])), (A 14, .inl (Z 0, 16, .inl (M.2.2.1 14))), (A 15, .inl (Z 1, 16, .inr (.inl (M.2.2.2 15)))), (A 16, .inl (Z 0, 16, .inl (M.2.2.1 16)))] s.heap := hP
  have hD : va_D AA [(A 17, .inr (0, [.ref (A 1), .ref (A 6), .ref (A 11), .ref (A 12), .ref (A 13), .ref (A 18), .ref (A 19), .int (M.1 12), .int (M.1 13), .int (M.1 14), .int (M.1 15), .int (M.1 16), .int (M.1 17), .int (M.1 18)])), (A 10, .inr (2, [.long (M.2.1 0)])), (A 11, .inr (7, [.int (M.1 2), .int (M.1 3), .int (M.1 4), .int (M.1 5), .int (M.1 6), .int (M.1 7)])), (A 18, .inr (8, [.int (M.1 19), .int (M.1 20), .int (M.1 21), .int (M.1 22)])), (A 19, .inr (6, [.long (M.2.1 1), .long (M.2.1 2), .int (M.1 23), .int (M.1 24), .int (M.1 25), .int (M.1 26), .int (M.1 27), .int (M.1 28)])), (A 1, .inr (5, [.ref (A 2), .ref (A 3), .ref (A 4), .ref (A 5), .int (M.1 0)])), (A 2, .inl (Z 0, 4, .inl (M.2.2.1 2))), (A 12, .inr (1, [.int (M.1 8), .int (M.1 9), .int (M.1 10)])), (A 4, .inl (Z 0, 4, .inl (M.2.2.1 4))), (A 3, .inl (Z 0, 4, .inl (M.2.2.1 3))), (A 6, .inr (3, [.ref (A 7), .ref (A 8), .ref (A 9), .int (M.1 1)])), (A 7, .inl (Z 0, 12, .inl (M.2.2.1 7))), (A 8, .inl (Z 0, 12, .inl (M.2.2.1 8))), (A 9, .inl (Z 0, 12, .inl (M.2.2.1 9))), (A 13, .inr (4, [.ref (A 14), .ref (A 15), .ref (A 16), .int (M.1 11)])), (A 14, .inl (Z 0, 16, .inl (M.2.2.1 14))), (A 15, .inl (Z 1, 16, .inr (.inl (M.2.2.2 15)))), (A 16, .inl (Z 0, 16, .inl (M.2.2.1 16)))] := hD
  have hl := lv_entry ([.ref (A 17), .ref (A 10)]) (n := 2) (Nat.le_of_ble_eq_true rfl)
  rw [lg_entry_eq]
  generalize (lg_sl ([.ref (A 17), .ref (A 10)]) ++ List.replicate (2 - (lg_sl ([.ref (A 17), .ref (A 10)])).length) Slot.unset).toArray = ls at hl ⊢
  have hl : lv_has ls 2 [(0, .ref (A 17)), (1, .ref (A 10))] := hl
  refine lv_aload_n hx hb d_Control_order_0 rfl (lv_at hl 0 rfl) ?_
  refine lv_iconst (v := 0) hx hb d_Control_order_1 (by decide) ?_
  refine va_put (D := (dC, dI)) (ci := 0) (v := .int 0) (ty := .int) (C := "CentrifugeUnit$Control") (T := xF0) (N := 14) hx hb htt xin0 xT0 xTo0 xNm0 hown hK hP hD hS 0 rfl rfl 11 (by decide) (htt _ tw_248) (fun _ h9 => h9) rfl (by decide +kernel) rfl rfl (Nat.le_of_ble_eq_true rfl) d_Control_order_2 (fun H locs hP hD hS => ?_)
  have hP : va_P (dC, dI) xcl [(A 17, .inr (0, [.ref (A 1), .ref (A 6), .ref (A 11), .ref (A 12), .ref (A 13), .ref (A 18), .ref (A 19), .int (M.1 12), .int (M.1 13), .int (M.1 14), .int (M.1 15), .int 0, .int (M.1 17), .int (M.1 18)])), (A 10, .inr (2, [.long (M.2.1 0)])), (A 11, .inr (7, [.int (M.1 2), .int (M.1 3), .int (M.1 4), .int (M.1 5), .int (M.1 6), .int (M.1 7)])), (A 18, .inr (8, [.int (M.1 19), .int (M.1 20), .int (M.1 21), .int (M.1 22)])), (A 19, .inr (6, [.long (M.2.1 1), .long (M.2.1 2), .int (M.1 23), .int (M.1 24), .int (M.1 25), .int (M.1 26), .int (M.1 27), .int (M.1 28)])), (A 1, .inr (5, [.ref (A 2), .ref (A 3), .ref (A 4), .ref (A 5), .int (M.1 0)])), (A 2, .inl (Z 0, 4, .inl (M.2.2.1 2))), (A 12, .inr (1, [.int (M.1 8), .int (M.1 9), .int (M.1 10)])), (A 4, .inl (Z 0, 4, .inl (M.2.2.1 4))), (A 3, .inl (Z 0, 4, .inl (M.2.2.1 3))), (A 6, .inr (3, [.ref (A 7), .ref (A 8), .ref (A 9), .int (M.1 1)])), (A 7, .inl (Z 0, 12, .inl (M.2.2.1 7))), (A 8, .inl (Z 0, 12, .inl (M.2.2.1 8))), (A 9, .inl (Z 0, 12, .inl (M.2.2.1 9))), (A 13, .inr (4, [.ref (A 14), .ref (A 15), .ref (A 16), .int (M.1 11)])), (A 14, .inl (Z 0, 16, .inl (M.2.2.1 14))), (A 15, .inl (Z 1, 16, .inr (.inl (M.2.2.2 15)))), (A 16, .inl (Z 0, 16, .inl (M.2.2.1 16)))] H := hP
  have hD : va_D AA [(A 17, .inr (0, [.ref (A 1), .ref (A 6), .ref (A 11), .ref (A 12), .ref (A 13), .ref (A 18), .ref (A 19), .int (M.1 12), .int (M.1 13), .int (M.1 14), .int (M.1 15), .int 0, .int (M.1 17), .int (M.1 18)])), (A 10, .inr (2, [.long (M.2.1 0)])), (A 11, .inr (7, [.int (M.1 2), .int (M.1 3), .int (M.1 4), .int (M.1 5), .int (M.1 6), .int (M.1 7)])), (A 18, .inr (8, [.int (M.1 19), .int (M.1 20), .int (M.1 21), .int (M.1 22)])), (A 19, .inr (6, [.long (M.2.1 1), .long (M.2.1 2), .int (M.1 23), .int (M.1 24), .int (M.1 25), .int (M.1 26), .int (M.1 27), .int (M.1 28)])), (A 1, .inr (5, [.ref (A 2), .ref (A 3), .ref (A 4), .ref (A 5), .int (M.1 0)])), (A 2, .inl (Z 0, 4, .inl (M.2.2.1 2))), (A 12, .inr (1, [.int (M.1 8), .int (M.1 9), .int (M.1 10)])), (A 4, .inl (Z 0, 4, .inl (M.2.2.1 4))), (A 3, .inl (Z 0, 4, .inl (M.2.2.1 3))), (A 6, .inr (3, [.ref (A 7), .ref (A 8), .ref (A 9), .int (M.1 1)])), (A 7, .inl (Z 0, 12, .inl (M.2.2.1 7))), (A 8, .inl (Z 0, 12, .inl (M.2.2.1 8))), (A 9, .inl (Z 0, 12, .inl (M.2.2.1 9))), (A 13, .inr (4, [.ref (A 14), .ref (A 15), .ref (A 16), .int (M.1 11)])), (A 14, .inl (Z 0, 16, .inl (M.2.2.1 14))), (A 15, .inl (Z 1, 16, .inr (.inl (M.2.2.2 15)))), (A 16, .inl (Z 0, 16, .inl (M.2.2.1 16)))] := hD
  refine lv_aload_n hx hb d_Control_order_5 rfl (lv_at hl 0 rfl) ?_
  refine lv_iconst (v := 0) hx hb d_Control_order_6 (by decide) ?_
  refine va_put (D := (dC, dI)) (ci := 0) (v := .int 0) (ty := .int) (C := "CentrifugeUnit$Control") (T := xF0) (N := 14) hx hb htt xin0 xT0 xTo0 xNm0 hown hK hP hD hS 0 rfl rfl 12 (by decide) (htt _ tw_250) (fun _ h9 => h9) rfl (by decide +kernel) rfl rfl (Nat.le_of_ble_eq_true rfl) d_Control_order_7 (fun H locs hP hD hS => ?_)
  have hP : va_P (dC, dI) xcl [(A 17, .inr (0, [.ref (A 1), .ref (A 6), .ref (A 11), .ref (A 12), .ref (A 13), .ref (A 18), .ref (A 19), .int (M.1 12), .int (M.1 13), .int (M.1 14), .int (M.1 15), .int 0, .int 0, .int (M.1 18)])), (A 10, .inr (2, [.long (M.2.1 0)])), (A 11, .inr (7, [.int (M.1 2), .int (M.1 3), .int (M.1 4), .int (M.1 5), .int (M.1 6), .int (M.1 7)])), (A 18, .inr (8, [.int (M.1 19), .int (M.1 20), .int (M.1 21), .int (M.1 22)])), (A 19, .inr (6, [.long (M.2.1 1), .long (M.2.1 2), .int (M.1 23), .int (M.1 24), .int (M.1 25), .int (M.1 26), .int (M.1 27), .int (M.1 28)])), (A 1, .inr (5, [.ref (A 2), .ref (A 3), .ref (A 4), .ref (A 5), .int (M.1 0)])), (A 2, .inl (Z 0, 4, .inl (M.2.2.1 2))), (A 12, .inr (1, [.int (M.1 8), .int (M.1 9), .int (M.1 10)])), (A 4, .inl (Z 0, 4, .inl (M.2.2.1 4))), (A 3, .inl (Z 0, 4, .inl (M.2.2.1 3))), (A 6, .inr (3, [.ref (A 7), .ref (A 8), .ref (A 9), .int (M.1 1)])), (A 7, .inl (Z 0, 12, .inl (M.2.2.1 7))), (A 8, .inl (Z 0, 12, .inl (M.2.2.1 8))), (A 9, .inl (Z 0, 12, .inl (M.2.2.1 9))), (A 13, .inr (4, [.ref (A 14), .ref (A 15), .ref (A 16), .int (M.1 11)])), (A 14, .inl (Z 0, 16, .inl (M.2.2.1 14))), (A 15, .inl (Z 1, 16, .inr (.inl (M.2.2.2 15)))), (A 16, .inl (Z 0, 16, .inl (M.2.2.1 16)))] H := hP
  have hD : va_D AA [(A 17, .inr (0, [.ref (A 1), .ref (A 6), .ref (A 11), .ref (A 12), .ref (A 13), .ref (A 18), .ref (A 19), .int (M.1 12), .int (M.1 13), .int (M.1 14), .int (M.1 15), .int 0, .int 0, .int (M.1 18)])), (A 10, .inr (2, [.long (M.2.1 0)])), (A 11, .inr (7, [.int (M.1 2), .int (M.1 3), .int (M.1 4), .int (M.1 5), .int (M.1 6), .int (M.1 7)])), (A 18, .inr (8, [.int (M.1 19), .int (M.1 20), .int (M.1 21), .int (M.1 22)])), (A 19, .inr (6, [.long (M.2.1 1), .long (M.2.1 2), .int (M.1 23), .int (M.1 24), .int (M.1 25), .int (M.1 26), .int (M.1 27), .int (M.1 28)])), (A 1, .inr (5, [.ref (A 2), .ref (A 3), .ref (A 4), .ref (A 5), .int (M.1 0)])), (A 2, .inl (Z 0, 4, .inl (M.2.2.1 2))), (A 12, .inr (1, [.int (M.1 8), .int (M.1 9), .int (M.1 10)])), (A 4, .inl (Z 0, 4, .inl (M.2.2.1 4))), (A 3, .inl (Z 0, 4, .inl (M.2.2.1 3))), (A 6, .inr (3, [.ref (A 7), .ref (A 8), .ref (A 9), .int (M.1 1)])), (A 7, .inl (Z 0, 12, .inl (M.2.2.1 7))), (A 8, .inl (Z 0, 12, .inl (M.2.2.1 8))), (A 9, .inl (Z 0, 12, .inl (M.2.2.1 9))), (A 13, .inr (4, [.ref (A 14), .ref (A 15), .ref (A 16), .int (M.1 11)])), (A 14, .inl (Z 0, 16, .inl (M.2.2.1 14))), (A 15, .inl (Z 1, 16, .inr (.inl (M.2.2.2 15)))), (A 16, .inl (Z 0, 16, .inl (M.2.2.1 16)))] := hD
  refine lv_aload_n hx hb d_Control_order_10 rfl (lv_at hl 0 rfl) ?_
  refine lv_iconst (v := 0) hx hb d_Control_order_11 (by decide) ?_
  refine va_put (D := (dC, dI)) (ci := 0) (v := .int 0) (ty := .boolean) (C := "CentrifugeUnit$Control") (T := xF0) (N := 14) hx hb htt xin0 xT0 xTo0 xNm0 hown hK hP hD hS 0 rfl rfl 13 (by decide) (htt _ tw_252) (fun _ h9 => h9) rfl (by decide +kernel) rfl rfl (Nat.le_of_ble_eq_true rfl) d_Control_order_12 (fun H locs hP hD hS => ?_)
  have hP : va_P (dC, dI) xcl [(A 17, .inr (0, [.ref (A 1), .ref (A 6), .ref (A 11), .ref (A 12), .ref (A 13), .ref (A 18), .ref (A 19), .int (M.1 12), .int (M.1 13), .int (M.1 14), .int (M.1 15), .int 0, .int 0, .int 0])), (A 10, .inr (2, [.long (M.2.1 0)])), (A 11, .inr (7, [.int (M.1 2), .int (M.1 3), .int (M.1 4), .int (M.1 5), .int (M.1 6), .int (M.1 7)])), (A 18, .inr (8, [.int (M.1 19), .int (M.1 20), .int (M.1 21), .int (M.1 22)])), (A 19, .inr (6, [.long (M.2.1 1), .long (M.2.1 2), .int (M.1 23), .int (M.1 24), .int (M.1 25), .int (M.1 26), .int (M.1 27), .int (M.1 28)])), (A 1, .inr (5, [.ref (A 2), .ref (A 3), .ref (A 4), .ref (A 5), .int (M.1 0)])), (A 2, .inl (Z 0, 4, .inl (M.2.2.1 2))), (A 12, .inr (1, [.int (M.1 8), .int (M.1 9), .int (M.1 10)])), (A 4, .inl (Z 0, 4, .inl (M.2.2.1 4))), (A 3, .inl (Z 0, 4, .inl (M.2.2.1 3))), (A 6, .inr (3, [.ref (A 7), .ref (A 8), .ref (A 9), .int (M.1 1)])), (A 7, .inl (Z 0, 12, .inl (M.2.2.1 7))), (A 8, .inl (Z 0, 12, .inl (M.2.2.1 8))), (A 9, .inl (Z 0, 12, .inl (M.2.2.1 9))), (A 13, .inr (4, [.ref (A 14), .ref (A 15), .ref (A 16), .int (M.1 11)])), (A 14, .inl (Z 0, 16, .inl (M.2.2.1 14))), (A 15, .inl (Z 1, 16, .inr (.inl (M.2.2.2 15)))), (A 16, .inl (Z 0, 16, .inl (M.2.2.1 16)))] H := hP
  have hD : va_D AA [(A 17, .inr (0, [.ref (A 1), .ref (A 6), .ref (A 11), .ref (A 12), .ref (A 13), .ref (A 18), .ref (A 19), .int (M.1 12), .int (M.1 13), .int (M.1 14), .int (M.1 15), .int 0, .int 0, .int 0])), (A 10, .inr (2, [.long (M.2.1 0)])), (A 11, .inr (7, [.int (M.1 2), .int (M.1 3), .int (M.1 4), .int (M.1 5), .int (M.1 6), .int (M.1 7)])), (A 18, .inr (8, [.int (M.1 19), .int (M.1 20), .int (M.1 21), .int (M.1 22)])), (A 19, .inr (6, [.long (M.2.1 1), .long (M.2.1 2), .int (M.1 23), .int (M.1 24), .int (M.1 25), .int (M.1 26), .int (M.1 27), .int (M.1 28)])), (A 1, .inr (5, [.ref (A 2), .ref (A 3), .ref (A 4), .ref (A 5), .int (M.1 0)])), (A 2, .inl (Z 0, 4, .inl (M.2.2.1 2))), (A 12, .inr (1, [.int (M.1 8), .int (M.1 9), .int (M.1 10)])), (A 4, .inl (Z 0, 4, .inl (M.2.2.1 4))), (A 3, .inl (Z 0, 4, .inl (M.2.2.1 3))), (A 6, .inr (3, [.ref (A 7), .ref (A 8), .ref (A 9), .int (M.1 1)])), (A 7, .inl (Z 0, 12, .inl (M.2.2.1 7))), (A 8, .inl (Z 0, 12, .inl (M.2.2.1 8))), (A 9, .inl (Z 0, 12, .inl (M.2.2.1 9))), (A 13, .inr (4, [.ref (A 14), .ref (A 15), .ref (A 16), .int (M.1 11)])), (A 14, .inl (Z 0, 16, .inl (M.2.2.1 14))), (A 15, .inl (Z 1, 16, .inr (.inl (M.2.2.2 15)))), (A 16, .inl (Z 0, 16, .inl (M.2.2.1 16)))] := hD
  refine lv_aload_n hx hb d_Control_order_15 rfl (lv_at hl 0 rfl) ?_
  refine va_get (D := (dC, dI)) (ci := 0) (v := .int (M.1 12)) (C := "CentrifugeUnit$Control") (T := xF0) (N := 14) hx hb htt xin0 hown hK hP 0 rfl rfl 7 (by decide) (htt _ tw_240) (fun _ h9 => h9) rfl d_Control_order_16 ?_
  refine lv_if_ne (tgt := 23) hx hb d_Control_order_19 rfl (fun h1 => ?_) (fun h1 => ?_)
  · refine lv_aload_n hx hb d_Control_order_23 rfl (lv_at hl 0 rfl) ?_
    refine lv_aload_n hx hb d_Control_order_24 rfl (lv_at hl 1 rfl) ?_
    have hPc := hP.sub (ws' := [(A 17, xc17 Z A ((va_up (va_up (va_up M.1 16 0) 17 0) 18 0), M.2)), (A 10, xc10 Z A ((va_up (va_up (va_up M.1 16 0) 17 0) 18 0), M.2)), (A 11, xc11 Z A ((va_up (va_up (va_up M.1 16 0) 17 0) 18 0), M.2)), (A 18, xc18 Z A ((va_up (va_up (va_up M.1 16 0) 17 0) 18 0), M.2)), (A 19, xc19 Z A ((va_up (va_up (va_up M.1 16 0) 17 0) 18 0), M.2)), (A 1, xc1 Z A ((va_up (va_up (va_up M.1 16 0) 17 0) 18 0), M.2)), (A 2, xc2 Z A ((va_up (va_up (va_up M.1 16 0) 17 0) 18 0), M.2))]) [0, 1, 2, 3, 4, 5, 6] rfl
    have hDc := hD.sub (ws' := [(A 17, xc17 Z A ((va_up (va_up (va_up M.1 16 0) 17 0) 18 0), M.2)), (A 10, xc10 Z A ((va_up (va_up (va_up M.1 16 0) 17 0) 18 0), M.2)), (A 11, xc11 Z A ((va_up (va_up (va_up M.1 16 0) 17 0) 18 0), M.2)), (A 18, xc18 Z A ((va_up (va_up (va_up M.1 16 0) 17 0) 18 0), M.2)), (A 19, xc19 Z A ((va_up (va_up (va_up M.1 16 0) 17 0) 18 0), M.2)), (A 1, xc1 Z A ((va_up (va_up (va_up M.1 16 0) 17 0) 18 0), M.2)), (A 2, xc2 Z A ((va_up (va_up (va_up M.1 16 0) 17 0) 18 0), M.2))]) [0, 1, 2, 3, 4, 5, 6] (by decide) rfl
    refine xk_v (wc := [(A 17, xc17 Z A ((va_up (va_up (va_up M.1 16 0) 17 0) 18 0), M.2)), (A 10, xc10 Z A ((va_up (va_up (va_up M.1 16 0) 17 0) 18 0), M.2)), (A 11, xc11 Z A ((va_up (va_up (va_up M.1 16 0) 17 0) 18 0), M.2)), (A 18, xc18 Z A ((va_up (va_up (va_up M.1 16 0) 17 0) 18 0), M.2)), (A 19, xc19 Z A ((va_up (va_up (va_up M.1 16 0) 17 0) 18 0), M.2)), (A 1, xc1 Z A ((va_up (va_up (va_up M.1 16 0) 17 0) 18 0), M.2)), (A 2, xc2 Z A ((va_up (va_up (va_up M.1 16 0) 17 0) 18 0), M.2))]) (wr := [(A 12, .inr (1, [.int (M.1 8), .int (M.1 9), .int (M.1 10)])), (A 4, .inl (Z 0, 4, .inl (M.2.2.1 4))), (A 3, .inl (Z 0, 4, .inl (M.2.2.1 3))), (A 6, .inr (3, [.ref (A 7), .ref (A 8), .ref (A 9), .int (M.1 1)])), (A 7, .inl (Z 0, 12, .inl (M.2.2.1 7))), (A 8, .inl (Z 0, 12, .inl (M.2.2.1 8))), (A 9, .inl (Z 0, 12, .inl (M.2.2.1 9))), (A 13, .inr (4, [.ref (A 14), .ref (A 15), .ref (A 16), .int (M.1 11)])), (A 14, .inl (Z 0, 16, .inl (M.2.2.1 14))), (A 15, .inl (Z 1, 16, .inr (.inl (M.2.2.2 15)))), (A 16, .inl (Z 0, 16, .inl (M.2.2.1 16)))]) (va_runV (As := [.ref (A 10)]) (rest := []) ⟨hx, hb, hml, hown, hts⟩ (c_Control_readSensors l dC dI Z A _ ((va_up (va_up (va_up M.1 16 0) 17 0) 18 0), M.2)) (cwV 1 hts (xw_V _ tw_585 tw_587 tp_1 tw_9 tw_588) rfl rfl rfl (by decide +kernel) ⟨Nat.le_of_ble_eq_true rfl, Nat.le_of_ble_eq_true rfl⟩) ⟨xB_blind, va_recv (q0 := 0) (ci := 0) hK hP rfl rfl, fun U hU hW => ⟨rfl, xB_at hPc hK hDc hq U hU hW⟩⟩ rfl rfl hl.1 rfl (lv_room (Nat.le_of_ble_eq_true rfl)) d_Control_order_25 ⟨Nat.le_of_ble_eq_true rfl, Nat.le_of_ble_eq_true rfl⟩) hP hD hS hA [0, 1, 2, 3, 4, 5, 6] [7, 8, 9, 10, 11, 12, 13, 14, 15, 16, 17] rfl rfl (by decide) (by decide) (fun u2 H locs hu2 hP hD hS => ?_)
    have hP : va_P (dC, dI) xcl [(A 12, .inr (1, [.int (M.1 8), .int (M.1 9), .int (M.1 10)])), (A 4, .inl (Z 0, 4, .inl (M.2.2.1 4))), (A 3, .inl (Z 0, 4, .inl (M.2.2.1 3))), (A 6, .inr (3, [.ref (A 7), .ref (A 8), .ref (A 9), .int (M.1 1)])), (A 7, .inl (Z 0, 12, .inl (M.2.2.1 7))), (A 8, .inl (Z 0, 12, .inl (M.2.2.1 8))), (A 9, .inl (Z 0, 12, .inl (M.2.2.1 9))), (A 13, .inr (4, [.ref (A 14), .ref (A 15), .ref (A 16), .int (M.1 11)])), (A 14, .inl (Z 0, 16, .inl (M.2.2.1 14))), (A 15, .inl (Z 1, 16, .inr (.inl (M.2.2.2 15)))), (A 16, .inl (Z 0, 16, .inl (M.2.2.1 16))), (A 17, .inr (0, [.ref (A 1), .ref (A 6), .ref (A 11), .ref (A 12), .ref (A 13), .ref (A 18), .ref (A 19), .int (M.1 12), .int (M.1 13), .int (M.1 14), .int (M.1 15), .int 0, .int 0, .int 0])), (A 10, .inr (2, [.long (M.2.1 0)])), (A 11, .inr (7, [.int (M.1 2), .int (M.1 3), .int (u2.1), .int (u2.2.1), .int (u2.2.2.1), .int (u2.2.2.2.1)])), (A 18, .inr (8, [.int (M.1 19), .int (u2.2.2.2.2.1), .int (u2.2.2.2.2.2.1), .int (u2.2.2.2.2.2.2.1)])), (A 19, .inr (6, [.long (M.2.1 1), .long (u2.2.2.2.2.2.2.2.1), .int (u2.2.2.2.2.2.2.2.2.2.1), .int (u2.2.2.2.2.2.2.2.2.1), .int (u2.2.2.2.2.2.2.2.2.2.2), .int (M.1 26), .int (M.1 27), .int (M.1 28)])), (A 1, .inr (5, [.ref (A 2), .ref (A 3), .ref (A 4), .ref (A 5), .int (M.1 0)])), (A 2, .inl (Z 0, 4, .inl (M.2.2.1 2)))] H := hP
    have hD : va_D AA [(A 12, .inr (1, [.int (M.1 8), .int (M.1 9), .int (M.1 10)])), (A 4, .inl (Z 0, 4, .inl (M.2.2.1 4))), (A 3, .inl (Z 0, 4, .inl (M.2.2.1 3))), (A 6, .inr (3, [.ref (A 7), .ref (A 8), .ref (A 9), .int (M.1 1)])), (A 7, .inl (Z 0, 12, .inl (M.2.2.1 7))), (A 8, .inl (Z 0, 12, .inl (M.2.2.1 8))), (A 9, .inl (Z 0, 12, .inl (M.2.2.1 9))), (A 13, .inr (4, [.ref (A 14), .ref (A 15), .ref (A 16), .int (M.1 11)])), (A 14, .inl (Z 0, 16, .inl (M.2.2.1 14))), (A 15, .inl (Z 1, 16, .inr (.inl (M.2.2.2 15)))), (A 16, .inl (Z 0, 16, .inl (M.2.2.1 16))), (A 17, .inr (0, [.ref (A 1), .ref (A 6), .ref (A 11), .ref (A 12), .ref (A 13), .ref (A 18), .ref (A 19), .int (M.1 12), .int (M.1 13), .int (M.1 14), .int (M.1 15), .int 0, .int 0, .int 0])), (A 10, .inr (2, [.long (M.2.1 0)])), (A 11, .inr (7, [.int (M.1 2), .int (M.1 3), .int (u2.1), .int (u2.2.1), .int (u2.2.2.1), .int (u2.2.2.2.1)])), (A 18, .inr (8, [.int (M.1 19), .int (u2.2.2.2.2.1), .int (u2.2.2.2.2.2.1), .int (u2.2.2.2.2.2.2.1)])), (A 19, .inr (6, [.long (M.2.1 1), .long (u2.2.2.2.2.2.2.2.1), .int (u2.2.2.2.2.2.2.2.2.2.1), .int (u2.2.2.2.2.2.2.2.2.1), .int (u2.2.2.2.2.2.2.2.2.2.2), .int (M.1 26), .int (M.1 27), .int (M.1 28)])), (A 1, .inr (5, [.ref (A 2), .ref (A 3), .ref (A 4), .ref (A 5), .int (M.1 0)])), (A 2, .inl (Z 0, 4, .inl (M.2.2.1 2)))] := hD
    refine lv_aload_n hx hb d_Control_order_28 rfl (lv_at hl 0 rfl) ?_
    have hPc := hP.sub (ws' := [(A 17, xc17 Z A ((va_up (va_up (va_up (va_up (va_up (va_up (va_up (va_up (va_up (va_up (va_up (va_up (va_up M.1 16 0) 17 0) 18 0) 4 (u2.1)) 5 (u2.2.1)) 6 (u2.2.2.1)) 7 (u2.2.2.2.1)) 20 (u2.2.2.2.2.1)) 21 (u2.2.2.2.2.2.1)) 22 (u2.2.2.2.2.2.2.1)) 24 (u2.2.2.2.2.2.2.2.2.1)) 23 (u2.2.2.2.2.2.2.2.2.2.1)) 25 (u2.2.2.2.2.2.2.2.2.2.2)), (va_up M.2.1 2 (u2.2.2.2.2.2.2.2.1)), M.2.2)), (A 12, xc12 Z A ((va_up (va_up (va_up (va_up (va_up (va_up (va_up (va_up (va_up (va_up (va_up (va_up (va_up M.1 16 0) 17 0) 18 0) 4 (u2.1)) 5 (u2.2.1)) 6 (u2.2.2.1)) 7 (u2.2.2.2.1)) 20 (u2.2.2.2.2.1)) 21 (u2.2.2.2.2.2.1)) 22 (u2.2.2.2.2.2.2.1)) 24 (u2.2.2.2.2.2.2.2.2.1)) 23 (u2.2.2.2.2.2.2.2.2.2.1)) 25 (u2.2.2.2.2.2.2.2.2.2.2)), (va_up M.2.1 2 (u2.2.2.2.2.2.2.2.1)), M.2.2)), (A 19, xc19 Z A ((va_up (va_up (va_up (va_up (va_up (va_up (va_up (va_up (va_up (va_up (va_up (va_up (va_up M.1 16 0) 17 0) 18 0) 4 (u2.1)) 5 (u2.2.1)) 6 (u2.2.2.1)) 7 (u2.2.2.2.1)) 20 (u2.2.2.2.2.1)) 21 (u2.2.2.2.2.2.1)) 22 (u2.2.2.2.2.2.2.1)) 24 (u2.2.2.2.2.2.2.2.2.1)) 23 (u2.2.2.2.2.2.2.2.2.2.1)) 25 (u2.2.2.2.2.2.2.2.2.2.2)), (va_up M.2.1 2 (u2.2.2.2.2.2.2.2.1)), M.2.2)), (A 11, xc11 Z A ((va_up (va_up (va_up (va_up (va_up (va_up (va_up (va_up (va_up (va_up (va_up (va_up (va_up M.1 16 0) 17 0) 18 0) 4 (u2.1)) 5 (u2.2.1)) 6 (u2.2.2.1)) 7 (u2.2.2.2.1)) 20 (u2.2.2.2.2.1)) 21 (u2.2.2.2.2.2.1)) 22 (u2.2.2.2.2.2.2.1)) 24 (u2.2.2.2.2.2.2.2.2.1)) 23 (u2.2.2.2.2.2.2.2.2.2.1)) 25 (u2.2.2.2.2.2.2.2.2.2.2)), (va_up M.2.1 2 (u2.2.2.2.2.2.2.2.1)), M.2.2)), (A 1, xc1 Z A ((va_up (va_up (va_up (va_up (va_up (va_up (va_up (va_up (va_up (va_up (va_up (va_up (va_up M.1 16 0) 17 0) 18 0) 4 (u2.1)) 5 (u2.2.1)) 6 (u2.2.2.1)) 7 (u2.2.2.2.1)) 20 (u2.2.2.2.2.1)) 21 (u2.2.2.2.2.2.1)) 22 (u2.2.2.2.2.2.2.1)) 24 (u2.2.2.2.2.2.2.2.2.1)) 23 (u2.2.2.2.2.2.2.2.2.2.1)) 25 (u2.2.2.2.2.2.2.2.2.2.2)), (va_up M.2.1 2 (u2.2.2.2.2.2.2.2.1)), M.2.2)), (A 4, xc4 Z A ((va_up (va_up (va_up (va_up (va_up (va_up (va_up (va_up (va_up (va_up (va_up (va_up (va_up M.1 16 0) 17 0) 18 0) 4 (u2.1)) 5 (u2.2.1)) 6 (u2.2.2.1)) 7 (u2.2.2.2.1)) 20 (u2.2.2.2.2.1)) 21 (u2.2.2.2.2.2.1)) 22 (u2.2.2.2.2.2.2.1)) 24 (u2.2.2.2.2.2.2.2.2.1)) 23 (u2.2.2.2.2.2.2.2.2.2.1)) 25 (u2.2.2.2.2.2.2.2.2.2.2)), (va_up M.2.1 2 (u2.2.2.2.2.2.2.2.1)), M.2.2)), (A 18, xc18 Z A ((va_up (va_up (va_up (va_up (va_up (va_up (va_up (va_up (va_up (va_up (va_up (va_up (va_up M.1 16 0) 17 0) 18 0) 4 (u2.1)) 5 (u2.2.1)) 6 (u2.2.2.1)) 7 (u2.2.2.2.1)) 20 (u2.2.2.2.2.1)) 21 (u2.2.2.2.2.2.1)) 22 (u2.2.2.2.2.2.2.1)) 24 (u2.2.2.2.2.2.2.2.2.1)) 23 (u2.2.2.2.2.2.2.2.2.2.1)) 25 (u2.2.2.2.2.2.2.2.2.2.2)), (va_up M.2.1 2 (u2.2.2.2.2.2.2.2.1)), M.2.2))]) [11, 0, 15, 13, 16, 1, 14] rfl
    have hDc := hD.sub (ws' := [(A 17, xc17 Z A ((va_up (va_up (va_up (va_up (va_up (va_up (va_up (va_up (va_up (va_up (va_up (va_up (va_up M.1 16 0) 17 0) 18 0) 4 (u2.1)) 5 (u2.2.1)) 6 (u2.2.2.1)) 7 (u2.2.2.2.1)) 20 (u2.2.2.2.2.1)) 21 (u2.2.2.2.2.2.1)) 22 (u2.2.2.2.2.2.2.1)) 24 (u2.2.2.2.2.2.2.2.2.1)) 23 (u2.2.2.2.2.2.2.2.2.2.1)) 25 (u2.2.2.2.2.2.2.2.2.2.2)), (va_up M.2.1 2 (u2.2.2.2.2.2.2.2.1)), M.2.2)), (A 12, xc12 Z A ((va_up (va_up (va_up (va_up (va_up (va_up (va_up (va_up (va_up (va_up (va_up (va_up (va_up M.1 16 0) 17 0) 18 0) 4 (u2.1)) 5 (u2.2.1)) 6 (u2.2.2.1)) 7 (u2.2.2.2.1)) 20 (u2.2.2.2.2.1)) 21 (u2.2.2.2.2.2.1)) 22 (u2.2.2.2.2.2.2.1)) 24 (u2.2.2.2.2.2.2.2.2.1)) 23 (u2.2.2.2.2.2.2.2.2.2.1)) 25 (u2.2.2.2.2.2.2.2.2.2.2)), (va_up M.2.1 2 (u2.2.2.2.2.2.2.2.1)), M.2.2)), (A 19, xc19 Z A ((va_up (va_up (va_up (va_up (va_up (va_up (va_up (va_up (va_up (va_up (va_up (va_up (va_up M.1 16 0) 17 0) 18 0) 4 (u2.1)) 5 (u2.2.1)) 6 (u2.2.2.1)) 7 (u2.2.2.2.1)) 20 (u2.2.2.2.2.1)) 21 (u2.2.2.2.2.2.1)) 22 (u2.2.2.2.2.2.2.1)) 24 (u2.2.2.2.2.2.2.2.2.1)) 23 (u2.2.2.2.2.2.2.2.2.2.1)) 25 (u2.2.2.2.2.2.2.2.2.2.2)), (va_up M.2.1 2 (u2.2.2.2.2.2.2.2.1)), M.2.2)), (A 11, xc11 Z A ((va_up (va_up (va_up (va_up (va_up (va_up (va_up (va_up (va_up (va_up (va_up (va_up (va_up M.1 16 0) 17 0) 18 0) 4 (u2.1)) 5 (u2.2.1)) 6 (u2.2.2.1)) 7 (u2.2.2.2.1)) 20 (u2.2.2.2.2.1)) 21 (u2.2.2.2.2.2.1)) 22 (u2.2.2.2.2.2.2.1)) 24 (u2.2.2.2.2.2.2.2.2.1)) 23 (u2.2.2.2.2.2.2.2.2.2.1)) 25 (u2.2.2.2.2.2.2.2.2.2.2)), (va_up M.2.1 2 (u2.2.2.2.2.2.2.2.1)), M.2.2)), (A 1, xc1 Z A ((va_up (va_up (va_up (va_up (va_up (va_up (va_up (va_up (va_up (va_up (va_up (va_up (va_up M.1 16 0) 17 0) 18 0) 4 (u2.1)) 5 (u2.2.1)) 6 (u2.2.2.1)) 7 (u2.2.2.2.1)) 20 (u2.2.2.2.2.1)) 21 (u2.2.2.2.2.2.1)) 22 (u2.2.2.2.2.2.2.1)) 24 (u2.2.2.2.2.2.2.2.2.1)) 23 (u2.2.2.2.2.2.2.2.2.2.1)) 25 (u2.2.2.2.2.2.2.2.2.2.2)), (va_up M.2.1 2 (u2.2.2.2.2.2.2.2.1)), M.2.2)), (A 4, xc4 Z A ((va_up (va_up (va_up (va_up (va_up (va_up (va_up (va_up (va_up (va_up (va_up (va_up (va_up M.1 16 0) 17 0) 18 0) 4 (u2.1)) 5 (u2.2.1)) 6 (u2.2.2.1)) 7 (u2.2.2.2.1)) 20 (u2.2.2.2.2.1)) 21 (u2.2.2.2.2.2.1)) 22 (u2.2.2.2.2.2.2.1)) 24 (u2.2.2.2.2.2.2.2.2.1)) 23 (u2.2.2.2.2.2.2.2.2.2.1)) 25 (u2.2.2.2.2.2.2.2.2.2.2)), (va_up M.2.1 2 (u2.2.2.2.2.2.2.2.1)), M.2.2)), (A 18, xc18 Z A ((va_up (va_up (va_up (va_up (va_up (va_up (va_up (va_up (va_up (va_up (va_up (va_up (va_up M.1 16 0) 17 0) 18 0) 4 (u2.1)) 5 (u2.2.1)) 6 (u2.2.2.1)) 7 (u2.2.2.2.1)) 20 (u2.2.2.2.2.1)) 21 (u2.2.2.2.2.2.1)) 22 (u2.2.2.2.2.2.2.1)) 24 (u2.2.2.2.2.2.2.2.2.1)) 23 (u2.2.2.2.2.2.2.2.2.2.1)) 25 (u2.2.2.2.2.2.2.2.2.2.2)), (va_up M.2.1 2 (u2.2.2.2.2.2.2.2.1)), M.2.2))]) [11, 0, 15, 13, 16, 1, 14] (by decide) rfl
    refine xk_v (wc := [(A 17, xc17 Z A ((va_up (va_up (va_up (va_up (va_up (va_up (va_up (va_up (va_up (va_up (va_up (va_up (va_up M.1 16 0) 17 0) 18 0) 4 (u2.1)) 5 (u2.2.1)) 6 (u2.2.2.1)) 7 (u2.2.2.2.1)) 20 (u2.2.2.2.2.1)) 21 (u2.2.2.2.2.2.1)) 22 (u2.2.2.2.2.2.2.1)) 24 (u2.2.2.2.2.2.2.2.2.1)) 23 (u2.2.2.2.2.2.2.2.2.2.1)) 25 (u2.2.2.2.2.2.2.2.2.2.2)), (va_up M.2.1 2 (u2.2.2.2.2.2.2.2.1)), M.2.2)), (A 12, xc12 Z A ((va_up (va_up (va_up (va_up (va_up (va_up (va_up (va_up (va_up (va_up (va_up (va_up (va_up M.1 16 0) 17 0) 18 0) 4 (u2.1)) 5 (u2.2.1)) 6 (u2.2.2.1)) 7 (u2.2.2.2.1)) 20 (u2.2.2.2.2.1)) 21 (u2.2.2.2.2.2.1)) 22 (u2.2.2.2.2.2.2.1)) 24 (u2.2.2.2.2.2.2.2.2.1)) 23 (u2.2.2.2.2.2.2.2.2.2.1)) 25 (u2.2.2.2.2.2.2.2.2.2.2)), (va_up M.2.1 2 (u2.2.2.2.2.2.2.2.1)), M.2.2)), (A 19, xc19 Z A ((va_up (va_up (va_up (va_up (va_up (va_up (va_up (va_up (va_up (va_up (va_up (va_up (va_up M.1 16 0) 17 0) 18 0) 4 (u2.1)) 5 (u2.2.1)) 6 (u2.2.2.1)) 7 (u2.2.2.2.1)) 20 (u2.2.2.2.2.1)) 21 (u2.2.2.2.2.2.1)) 22 (u2.2.2.2.2.2.2.1)) 24 (u2.2.2.2.2.2.2.2.2.1)) 23 (u2.2.2.2.2.2.2.2.2.2.1)) 25 (u2.2.2.2.2.2.2.2.2.2.2)), (va_up M.2.1 2 (u2.2.2.2.2.2.2.2.1)), M.2.2)), (A 11, xc11 Z A ((va_up (va_up (va_up (va_up (va_up (va_up (va_up (va_up (va_up (va_up (va_up (va_up (va_up M.1 16 0) 17 0) 18 0) 4 (u2.1)) 5 (u2.2.1)) 6 (u2.2.2.1)) 7 (u2.2.2.2.1)) 20 (u2.2.2.2.2.1)) 21 (u2.2.2.2.2.2.1)) 22 (u2.2.2.2.2.2.2.1)) 24 (u2.2.2.2.2.2.2.2.2.1)) 23 (u2.2.2.2.2.2.2.2.2.2.1)) 25 (u2.2.2.2.2.2.2.2.2.2.2)), (va_up M.2.1 2 (u2.2.2.2.2.2.2.2.1)), M.2.2)), (A 1, xc1 Z A ((va_up (va_up (va_up (va_up (va_up (va_up (va_up (va_up (va_up (va_up (va_up (va_up (va_up M.1 16 0) 17 0) 18 0) 4 (u2.1)) 5 (u2.2.1)) 6 (u2.2.2.1)) 7 (u2.2.2.2.1)) 20 (u2.2.2.2.2.1)) 21 (u2.2.2.2.2.2.1)) 22 (u2.2.2.2.2.2.2.1)) 24 (u2.2.2.2.2.2.2.2.2.1)) 23 (u2.2.2.2.2.2.2.2.2.2.1)) 25 (u2.2.2.2.2.2.2.2.2.2.2)), (va_up M.2.1 2 (u2.2.2.2.2.2.2.2.1)), M.2.2)), (A 4, xc4 Z A ((va_up (va_up (va_up (va_up (va_up (va_up (va_up (va_up (va_up (va_up (va_up (va_up (va_up M.1 16 0) 17 0) 18 0) 4 (u2.1)) 5 (u2.2.1)) 6 (u2.2.2.1)) 7 (u2.2.2.2.1)) 20 (u2.2.2.2.2.1)) 21 (u2.2.2.2.2.2.1)) 22 (u2.2.2.2.2.2.2.1)) 24 (u2.2.2.2.2.2.2.2.2.1)) 23 (u2.2.2.2.2.2.2.2.2.2.1)) 25 (u2.2.2.2.2.2.2.2.2.2.2)), (va_up M.2.1 2 (u2.2.2.2.2.2.2.2.1)), M.2.2)), (A 18, xc18 Z A ((va_up (va_up (va_up (va_up (va_up (va_up (va_up (va_up (va_up (va_up (va_up (va_up (va_up M.1 16 0) 17 0) 18 0) 4 (u2.1)) 5 (u2.2.1)) 6 (u2.2.2.1)) 7 (u2.2.2.2.1)) 20 (u2.2.2.2.2.1)) 21 (u2.2.2.2.2.2.1)) 22 (u2.2.2.2.2.2.2.1)) 24 (u2.2.2.2.2.2.2.2.2.1)) 23 (u2.2.2.2.2.2.2.2.2.2.1)) 25 (u2.2.2.2.2.2.2.2.2.2.2)), (va_up M.2.1 2 (u2.2.2.2.2.2.2.2.1)), M.2.2))]) (wr := [(A 3, .inl (Z 0, 4, .inl (M.2.2.1 3))), (A 6, .inr (3, [.ref (A 7), .ref (A 8), .ref (A 9), .int (M.1 1)])), (A 7, .inl (Z 0, 12, .inl (M.2.2.1 7))), (A 8, .inl (Z 0, 12, .inl (M.2.2.1 8))), (A 9, .inl (Z 0, 12, .inl (M.2.2.1 9))), (A 13, .inr (4, [.ref (A 14), .ref (A 15), .ref (A 16), .int (M.1 11)])), (A 14, .inl (Z 0, 16, .inl (M.2.2.1 14))), (A 15, .inl (Z 1, 16, .inr (.inl (M.2.2.2 15)))), (A 16, .inl (Z 0, 16, .inl (M.2.2.1 16))), (A 10, .inr (2, [.long (M.2.1 0)])), (A 2, .inl (Z 0, 4, .inl (M.2.2.1 2)))]) (va_runV (As := []) (rest := []) ⟨hx, hb, hml, hown, hts⟩ (c_Control_lookForFault l dC dI Z A _ ((va_up (va_up (va_up (va_up (va_up (va_up (va_up (va_up (va_up (va_up (va_up (va_up (va_up M.1 16 0) 17 0) 18 0) 4 (u2.1)) 5 (u2.2.1)) 6 (u2.2.2.1)) 7 (u2.2.2.2.1)) 20 (u2.2.2.2.2.1)) 21 (u2.2.2.2.2.2.1)) 22 (u2.2.2.2.2.2.2.1)) 24 (u2.2.2.2.2.2.2.2.2.1)) 23 (u2.2.2.2.2.2.2.2.2.2.1)) 25 (u2.2.2.2.2.2.2.2.2.2.2)), (va_up M.2.1 2 (u2.2.2.2.2.2.2.2.1)), M.2.2)) (cwV 0 hts (xw_V _ tw_635 tw_637 tp_3 tw_9 tw_638) rfl rfl rfl (by decide +kernel) ⟨Nat.le_of_ble_eq_true rfl, Nat.le_of_ble_eq_true rfl⟩) ⟨xB_blind, va_recv (q0 := 11) (ci := 0) hK hP rfl rfl, fun U hU hW => ⟨rfl, xB_at hPc hK hDc hq U hU hW⟩⟩ rfl rfl hl.1 rfl (lv_room (Nat.le_of_ble_eq_true rfl)) d_Control_order_29 ⟨Nat.le_of_ble_eq_true rfl, Nat.le_of_ble_eq_true rfl⟩) hP hD hS hA [11, 0, 15, 13, 16, 1, 14] [2, 3, 4, 5, 6, 7, 8, 9, 10, 12, 17] rfl rfl (by decide) (by decide) (fun u4 H locs hu4 hP hD hS => ?_)
    have hP : va_P (dC, dI) xcl [(A 3, .inl (Z 0, 4, .inl (M.2.2.1 3))), (A 6, .inr (3, [.ref (A 7), .ref (A 8), .ref (A 9), .int (M.1 1)])), (A 7, .inl (Z 0, 12, .inl (M.2.2.1 7))), (A 8, .inl (Z 0, 12, .inl (M.2.2.1 8))), (A 9, .inl (Z 0, 12, .inl (M.2.2.1 9))), (A 13, .inr (4, [.ref (A 14), .ref (A 15), .ref (A 16), .int (M.1 11)])), (A 14, .inl (Z 0, 16, .inl (M.2.2.1 14))), (A 15, .inl (Z 1, 16, .inr (.inl (M.2.2.2 15)))), (A 16, .inl (Z 0, 16, .inl (M.2.2.1 16))), (A 10, .inr (2, [.long (M.2.1 0)])), (A 2, .inl (Z 0, 4, .inl (M.2.2.1 2))), (A 17, .inr (0, [.ref (A 1), .ref (A 6), .ref (A 11), .ref (A 12), .ref (A 13), .ref (A 18), .ref (A 19), .int (M.1 12), .int (M.1 13), .int (u4.1), .int (u4.2), .int 0, .int 0, .int 0])), (A 12, .inr (1, [.int (M.1 8), .int (M.1 9), .int (M.1 10)])), (A 19, .inr (6, [.long (M.2.1 1), .long (u2.2.2.2.2.2.2.2.1), .int (u2.2.2.2.2.2.2.2.2.2.1), .int (u2.2.2.2.2.2.2.2.2.1), .int (u2.2.2.2.2.2.2.2.2.2.2), .int (M.1 26), .int (M.1 27), .int (M.1 28)])), (A 11, .inr (7, [.int (M.1 2), .int (M.1 3), .int (u2.1), .int (u2.2.1), .int (u2.2.2.1), .int (u2.2.2.2.1)])), (A 1, .inr (5, [.ref (A 2), .ref (A 3), .ref (A 4), .ref (A 5), .int (M.1 0)])), (A 4, .inl (Z 0, 4, .inl (M.2.2.1 4))), (A 18, .inr (8, [.int (M.1 19), .int (u2.2.2.2.2.1), .int (u2.2.2.2.2.2.1), .int (u2.2.2.2.2.2.2.1)]))] H := hP
    have hD : va_D AA [(A 3, .inl (Z 0, 4, .inl (M.2.2.1 3))), (A 6, .inr (3, [.ref (A 7), .ref (A 8), .ref (A 9), .int (M.1 1)])), (A 7, .inl (Z 0, 12, .inl (M.2.2.1 7))), (A 8, .inl (Z 0, 12, .inl (M.2.2.1 8))), (A 9, .inl (Z 0, 12, .inl (M.2.2.1 9))), (A 13, .inr (4, [.ref (A 14), .ref (A 15), .ref (A 16), .int (M.1 11)])), (A 14, .inl (Z 0, 16, .inl (M.2.2.1 14))), (A 15, .inl (Z 1, 16, .inr (.inl (M.2.2.2 15)))), (A 16, .inl (Z 0, 16, .inl (M.2.2.1 16))), (A 10, .inr (2, [.long (M.2.1 0)])), (A 2, .inl (Z 0, 4, .inl (M.2.2.1 2))), (A 17, .inr (0, [.ref (A 1), .ref (A 6), .ref (A 11), .ref (A 12), .ref (A 13), .ref (A 18), .ref (A 19), .int (M.1 12), .int (M.1 13), .int (u4.1), .int (u4.2), .int 0, .int 0, .int 0])), (A 12, .inr (1, [.int (M.1 8), .int (M.1 9), .int (M.1 10)])), (A 19, .inr (6, [.long (M.2.1 1), .long (u2.2.2.2.2.2.2.2.1), .int (u2.2.2.2.2.2.2.2.2.2.1), .int (u2.2.2.2.2.2.2.2.2.1), .int (u2.2.2.2.2.2.2.2.2.2.2), .int (M.1 26), .int (M.1 27), .int (M.1 28)])), (A 11, .inr (7, [.int (M.1 2), .int (M.1 3), .int (u2.1), .int (u2.2.1), .int (u2.2.2.1), .int (u2.2.2.2.1)])), (A 1, .inr (5, [.ref (A 2), .ref (A 3), .ref (A 4), .ref (A 5), .int (M.1 0)])), (A 4, .inl (Z 0, 4, .inl (M.2.2.1 4))), (A 18, .inr (8, [.int (M.1 19), .int (u2.2.2.2.2.1), .int (u2.2.2.2.2.2.1), .int (u2.2.2.2.2.2.2.1)]))] := hD
    refine lv_aload_n hx hb d_Control_order_32 rfl (lv_at hl 0 rfl) ?_
    have hPc := hP.sub (ws' := [(A 17, xc17 Z A ((va_up (va_up (va_up (va_up (va_up (va_up (va_up (va_up (va_up (va_up (va_up (va_up M.1 16 0) 17 0) 18 0) 4 (u2.1)) 5 (u2.2.1)) 6 (u2.2.2.1)) 7 (u2.2.2.2.1)) 24 (u2.2.2.2.2.2.2.2.2.1)) 23 (u2.2.2.2.2.2.2.2.2.2.1)) 25 (u2.2.2.2.2.2.2.2.2.2.2)) 14 (u4.1)) 15 (u4.2)), (va_up M.2.1 2 (u2.2.2.2.2.2.2.2.1)), M.2.2)), (A 11, xc11 Z A ((va_up (va_up (va_up (va_up (va_up (va_up (va_up (va_up (va_up (va_up (va_up (va_up M.1 16 0) 17 0) 18 0) 4 (u2.1)) 5 (u2.2.1)) 6 (u2.2.2.1)) 7 (u2.2.2.2.1)) 24 (u2.2.2.2.2.2.2.2.2.1)) 23 (u2.2.2.2.2.2.2.2.2.2.1)) 25 (u2.2.2.2.2.2.2.2.2.2.2)) 14 (u4.1)) 15 (u4.2)), (va_up M.2.1 2 (u2.2.2.2.2.2.2.2.1)), M.2.2)), (A 19, xc19 Z A ((va_up (va_up (va_up (va_up (va_up (va_up (va_up (va_up (va_up (va_up (va_up (va_up M.1 16 0) 17 0) 18 0) 4 (u2.1)) 5 (u2.2.1)) 6 (u2.2.2.1)) 7 (u2.2.2.2.1)) 24 (u2.2.2.2.2.2.2.2.2.1)) 23 (u2.2.2.2.2.2.2.2.2.2.1)) 25 (u2.2.2.2.2.2.2.2.2.2.2)) 14 (u4.1)) 15 (u4.2)), (va_up M.2.1 2 (u2.2.2.2.2.2.2.2.1)), M.2.2)), (A 1, xc1 Z A ((va_up (va_up (va_up (va_up (va_up (va_up (va_up (va_up (va_up (va_up (va_up (va_up M.1 16 0) 17 0) 18 0) 4 (u2.1)) 5 (u2.2.1)) 6 (u2.2.2.1)) 7 (u2.2.2.2.1)) 24 (u2.2.2.2.2.2.2.2.2.1)) 23 (u2.2.2.2.2.2.2.2.2.2.1)) 25 (u2.2.2.2.2.2.2.2.2.2.2)) 14 (u4.1)) 15 (u4.2)), (va_up M.2.1 2 (u2.2.2.2.2.2.2.2.1)), M.2.2)), (A 3, xc3 Z A ((va_up (va_up (va_up (va_up (va_up (va_up (va_up (va_up (va_up (va_up (va_up (va_up M.1 16 0) 17 0) 18 0) 4 (u2.1)) 5 (u2.2.1)) 6 (u2.2.2.1)) 7 (u2.2.2.2.1)) 24 (u2.2.2.2.2.2.2.2.2.1)) 23 (u2.2.2.2.2.2.2.2.2.2.1)) 25 (u2.2.2.2.2.2.2.2.2.2.2)) 14 (u4.1)) 15 (u4.2)), (va_up M.2.1 2 (u2.2.2.2.2.2.2.2.1)), M.2.2))]) [11, 14, 13, 15, 0] rfl
    have hDc := hD.sub (ws' := [(A 17, xc17 Z A ((va_up (va_up (va_up (va_up (va_up (va_up (va_up (va_up (va_up (va_up (va_up (va_up M.1 16 0) 17 0) 18 0) 4 (u2.1)) 5 (u2.2.1)) 6 (u2.2.2.1)) 7 (u2.2.2.2.1)) 24 (u2.2.2.2.2.2.2.2.2.1)) 23 (u2.2.2.2.2.2.2.2.2.2.1)) 25 (u2.2.2.2.2.2.2.2.2.2.2)) 14 (u4.1)) 15 (u4.2)), (va_up M.2.1 2 (u2.2.2.2.2.2.2.2.1)), M.2.2)), (A 11, xc11 Z A ((va_up (va_up (va_up (va_up (va_up (va_up (va_up (va_up (va_up (va_up (va_up (va_up M.1 16 0) 17 0) 18 0) 4 (u2.1)) 5 (u2.2.1)) 6 (u2.2.2.1)) 7 (u2.2.2.2.1)) 24 (u2.2.2.2.2.2.2.2.2.1)) 23 (u2.2.2.2.2.2.2.2.2.2.1)) 25 (u2.2.2.2.2.2.2.2.2.2.2)) 14 (u4.1)) 15 (u4.2)), (va_up M.2.1 2 (u2.2.2.2.2.2.2.2.1)), M.2.2)), (A 19, xc19 Z A ((va_up (va_up (va_up (va_up (va_up (va_up (va_up (va_up (va_up (va_up (va_up (va_up M.1 16 0) 17 0) 18 0) 4 (u2.1)) 5 (u2.2.1)) 6 (u2.2.2.1)) 7 (u2.2.2.2.1)) 24 (u2.2.2.2.2.2.2.2.2.1)) 23 (u2.2.2.2.2.2.2.2.2.2.1)) 25 (u2.2.2.2.2.2.2.2.2.2.2)) 14 (u4.1)) 15 (u4.2)), (va_up M.2.1 2 (u2.2.2.2.2.2.2.2.1)), M.2.2)), (A 1, xc1 Z A ((va_up (va_up (va_up (va_up (va_up (va_up (va_up (va_up (va_up (va_up (va_up (va_up M.1 16 0) 17 0) 18 0) 4 (u2.1)) 5 (u2.2.1)) 6 (u2.2.2.1)) 7 (u2.2.2.2.1)) 24 (u2.2.2.2.2.2.2.2.2.1)) 23 (u2.2.2.2.2.2.2.2.2.2.1)) 25 (u2.2.2.2.2.2.2.2.2.2.2)) 14 (u4.1)) 15 (u4.2)), (va_up M.2.1 2 (u2.2.2.2.2.2.2.2.1)), M.2.2)), (A 3, xc3 Z A ((va_up (va_up (va_up (va_up (va_up (va_up (va_up (va_up (va_up (va_up (va_up (va_up M.1 16 0) 17 0) 18 0) 4 (u2.1)) 5 (u2.2.1)) 6 (u2.2.2.1)) 7 (u2.2.2.2.1)) 24 (u2.2.2.2.2.2.2.2.2.1)) 23 (u2.2.2.2.2.2.2.2.2.2.1)) 25 (u2.2.2.2.2.2.2.2.2.2.2)) 14 (u4.1)) 15 (u4.2)), (va_up M.2.1 2 (u2.2.2.2.2.2.2.2.1)), M.2.2))]) [11, 14, 13, 15, 0] (by decide) rfl
    refine xk_v (wc := [(A 17, xc17 Z A ((va_up (va_up (va_up (va_up (va_up (va_up (va_up (va_up (va_up (va_up (va_up (va_up M.1 16 0) 17 0) 18 0) 4 (u2.1)) 5 (u2.2.1)) 6 (u2.2.2.1)) 7 (u2.2.2.2.1)) 24 (u2.2.2.2.2.2.2.2.2.1)) 23 (u2.2.2.2.2.2.2.2.2.2.1)) 25 (u2.2.2.2.2.2.2.2.2.2.2)) 14 (u4.1)) 15 (u4.2)), (va_up M.2.1 2 (u2.2.2.2.2.2.2.2.1)), M.2.2)), (A 11, xc11 Z A ((va_up (va_up (va_up (va_up (va_up (va_up (va_up (va_up (va_up (va_up (va_up (va_up M.1 16 0) 17 0) 18 0) 4 (u2.1)) 5 (u2.2.1)) 6 (u2.2.2.1)) 7 (u2.2.2.2.1)) 24 (u2.2.2.2.2.2.2.2.2.1)) 23 (u2.2.2.2.2.2.2.2.2.2.1)) 25 (u2.2.2.2.2.2.2.2.2.2.2)) 14 (u4.1)) 15 (u4.2)), (va_up M.2.1 2 (u2.2.2.2.2.2.2.2.1)), M.2.2)), (A 19, xc19 Z A ((va_up (va_up (va_up (va_up (va_up (va_up (va_up (va_up (va_up (va_up (va_up (va_up M.1 16 0) 17 0) 18 0) 4 (u2.1)) 5 (u2.2.1)) 6 (u2.2.2.1)) 7 (u2.2.2.2.1)) 24 (u2.2.2.2.2.2.2.2.2.1)) 23 (u2.2.2.2.2.2.2.2.2.2.1)) 25 (u2.2.2.2.2.2.2.2.2.2.2)) 14 (u4.1)) 15 (u4.2)), (va_up M.2.1 2 (u2.2.2.2.2.2.2.2.1)), M.2.2)), (A 1, xc1 Z A ((va_up (va_up (va_up (va_up (va_up (va_up (va_up (va_up (va_up (va_up (va_up (va_up M.1 16 0) 17 0) 18 0) 4 (u2.1)) 5 (u2.2.1)) 6 (u2.2.2.1)) 7 (u2.2.2.2.1)) 24 (u2.2.2.2.2.2.2.2.2.1)) 23 (u2.2.2.2.2.2.2.2.2.2.1)) 25 (u2.2.2.2.2.2.2.2.2.2.2)) 14 (u4.1)) 15 (u4.2)), (va_up M.2.1 2 (u2.2.2.2.2.2.2.2.1)), M.2.2)), (A 3, xc3 Z A ((va_up (va_up (va_up (va_up (va_up (va_up (va_up (va_up (va_up (va_up (va_up (va_up M.1 16 0) 17 0) 18 0) 4 (u2.1)) 5 (u2.2.1)) 6 (u2.2.2.1)) 7 (u2.2.2.2.1)) 24 (u2.2.2.2.2.2.2.2.2.1)) 23 (u2.2.2.2.2.2.2.2.2.2.1)) 25 (u2.2.2.2.2.2.2.2.2.2.2)) 14 (u4.1)) 15 (u4.2)), (va_up M.2.1 2 (u2.2.2.2.2.2.2.2.1)), M.2.2))]) (wr := [(A 6, .inr (3, [.ref (A 7), .ref (A 8), .ref (A 9), .int (M.1 1)])), (A 7, .inl (Z 0, 12, .inl (M.2.2.1 7))), (A 8, .inl (Z 0, 12, .inl (M.2.2.1 8))), (A 9, .inl (Z 0, 12, .inl (M.2.2.1 9))), (A 13, .inr (4, [.ref (A 14), .ref (A 15), .ref (A 16), .int (M.1 11)])), (A 14, .inl (Z 0, 16, .inl (M.2.2.1 14))), (A 15, .inl (Z 1, 16, .inr (.inl (M.2.2.2 15)))), (A 16, .inl (Z 0, 16, .inl (M.2.2.1 16))), (A 10, .inr (2, [.long (M.2.1 0)])), (A 2, .inl (Z 0, 4, .inl (M.2.2.1 2))), (A 12, .inr (1, [.int (M.1 8), .int (M.1 9), .int (M.1 10)])), (A 4, .inl (Z 0, 4, .inl (M.2.2.1 4))), (A 18, .inr (8, [.int (M.1 19), .int (u2.2.2.2.2.1), .int (u2.2.2.2.2.2.1), .int (u2.2.2.2.2.2.2.1)]))]) (va_runV (As := []) (rest := []) ⟨hx, hb, hml, hown, hts⟩ (c_Control_addDose l dC dI Z A _ ((va_up (va_up (va_up (va_up (va_up (va_up (va_up (va_up (va_up (va_up (va_up (va_up M.1 16 0) 17 0) 18 0) 4 (u2.1)) 5 (u2.2.1)) 6 (u2.2.2.1)) 7 (u2.2.2.2.1)) 24 (u2.2.2.2.2.2.2.2.2.1)) 23 (u2.2.2.2.2.2.2.2.2.2.1)) 25 (u2.2.2.2.2.2.2.2.2.2.2)) 14 (u4.1)) 15 (u4.2)), (va_up M.2.1 2 (u2.2.2.2.2.2.2.2.1)), M.2.2)) (cwV 0 hts (xw_V _ tw_656 tw_658 tp_5 tw_9 tw_659) rfl rfl rfl (by decide +kernel) ⟨Nat.le_of_ble_eq_true rfl, Nat.le_of_ble_eq_true rfl⟩) ⟨xB_blind, va_recv (q0 := 11) (ci := 0) hK hP rfl rfl, fun U hU hW => ⟨rfl, xB_at hPc hK hDc hq U hU hW⟩⟩ rfl rfl hl.1 rfl (lv_room (Nat.le_of_ble_eq_true rfl)) d_Control_order_33 ⟨Nat.le_of_ble_eq_true rfl, Nat.le_of_ble_eq_true rfl⟩) hP hD hS hA [11, 14, 13, 15, 0] [1, 2, 3, 4, 5, 6, 7, 8, 9, 10, 12, 16, 17] rfl rfl (by decide) (by decide) (fun u6 H locs hu6 hP hD hS => ?_)
    have hP : va_P (dC, dI) xcl [(A 6, .inr (3, [.ref (A 7), .ref (A 8), .ref (A 9), .int (M.1 1)])), (A 7, .inl (Z 0, 12, .inl (M.2.2.1 7))), (A 8, .inl (Z 0, 12, .inl (M.2.2.1 8))), (A 9, .inl (Z 0, 12, .inl (M.2.2.1 9))), (A 13, .inr (4, [.ref (A 14), .ref (A 15), .ref (A 16), .int (M.1 11)])), (A 14, .inl (Z 0, 16, .inl (M.2.2.1 14))), (A 15, .inl (Z 1, 16, .inr (.inl (M.2.2.2 15)))), (A 16, .inl (Z 0, 16, .inl (M.2.2.1 16))), (A 10, .inr (2, [.long (M.2.1 0)])), (A 2, .inl (Z 0, 4, .inl (M.2.2.1 2))), (A 12, .inr (1, [.int (M.1 8), .int (M.1 9), .int (M.1 10)])), (A 4, .inl (Z 0, 4, .inl (M.2.2.1 4))), (A 18, .inr (8, [.int (M.1 19), .int (u2.2.2.2.2.1), .int (u2.2.2.2.2.2.1), .int (u2.2.2.2.2.2.2.1)])), (A 17, .inr (0, [.ref (A 1), .ref (A 6), .ref (A 11), .ref (A 12), .ref (A 13), .ref (A 18), .ref (A 19), .int (M.1 12), .int (M.1 13), .int (u4.1), .int (u4.2), .int 0, .int 0, .int 0])), (A 11, .inr (7, [.int (M.1 2), .int (M.1 3), .int (u2.1), .int (u2.2.1), .int (u2.2.2.1), .int (u2.2.2.2.1)])), (A 19, .inr (6, [.long u6, .long (u2.2.2.2.2.2.2.2.1), .int (u2.2.2.2.2.2.2.2.2.2.1), .int (u2.2.2.2.2.2.2.2.2.1), .int (u2.2.2.2.2.2.2.2.2.2.2), .int (M.1 26), .int (M.1 27), .int (M.1 28)])), (A 1, .inr (5, [.ref (A 2), .ref (A 3), .ref (A 4), .ref (A 5), .int (M.1 0)])), (A 3, .inl (Z 0, 4, .inl (M.2.2.1 3)))] H := hP
    have hD : va_D AA [(A 6, .inr (3, [.ref (A 7), .ref (A 8), .ref (A 9), .int (M.1 1)])), (A 7, .inl (Z 0, 12, .inl (M.2.2.1 7))), (A 8, .inl (Z 0, 12, .inl (M.2.2.1 8))), (A 9, .inl (Z 0, 12, .inl (M.2.2.1 9))), (A 13, .inr (4, [.ref (A 14), .ref (A 15), .ref (A 16), .int (M.1 11)])), (A 14, .inl (Z 0, 16, .inl (M.2.2.1 14))), (A 15, .inl (Z 1, 16, .inr (.inl (M.2.2.2 15)))), (A 16, .inl (Z 0, 16, .inl (M.2.2.1 16))), (A 10, .inr (2, [.long (M.2.1 0)])), (A 2, .inl (Z 0, 4, .inl (M.2.2.1 2))), (A 12, .inr (1, [.int (M.1 8), .int (M.1 9), .int (M.1 10)])), (A 4, .inl (Z 0, 4, .inl (M.2.2.1 4))), (A 18, .inr (8, [.int (M.1 19), .int (u2.2.2.2.2.1), .int (u2.2.2.2.2.2.1), .int (u2.2.2.2.2.2.2.1)])), (A 17, .inr (0, [.ref (A 1), .ref (A 6), .ref (A 11), .ref (A 12), .ref (A 13), .ref (A 18), .ref (A 19), .int (M.1 12), .int (M.1 13), .int (u4.1), .int (u4.2), .int 0, .int 0, .int 0])), (A 11, .inr (7, [.int (M.1 2), .int (M.1 3), .int (u2.1), .int (u2.2.1), .int (u2.2.2.1), .int (u2.2.2.2.1)])), (A 19, .inr (6, [.long u6, .long (u2.2.2.2.2.2.2.2.1), .int (u2.2.2.2.2.2.2.2.2.2.1), .int (u2.2.2.2.2.2.2.2.2.1), .int (u2.2.2.2.2.2.2.2.2.2.2), .int (M.1 26), .int (M.1 27), .int (M.1 28)])), (A 1, .inr (5, [.ref (A 2), .ref (A 3), .ref (A 4), .ref (A 5), .int (M.1 0)])), (A 3, .inl (Z 0, 4, .inl (M.2.2.1 3)))] := hD
    refine lv_aload_n hx hb d_Control_order_36 rfl (lv_at hl 0 rfl) ?_
    have hPc := hP.sub (ws' := [(A 17, xc17 Z A ((va_up (va_up (va_up (va_up (va_up (va_up (va_up (va_up (va_up (va_up (va_up (va_up M.1 16 0) 17 0) 18 0) 4 (u2.1)) 5 (u2.2.1)) 6 (u2.2.2.1)) 7 (u2.2.2.2.1)) 24 (u2.2.2.2.2.2.2.2.2.1)) 23 (u2.2.2.2.2.2.2.2.2.2.1)) 25 (u2.2.2.2.2.2.2.2.2.2.2)) 14 (u4.1)) 15 (u4.2)), (va_up (va_up M.2.1 2 (u2.2.2.2.2.2.2.2.1)) 1 u6), M.2.2)), (A 6, xc6 Z A ((va_up (va_up (va_up (va_up (va_up (va_up (va_up (va_up (va_up (va_up (va_up (va_up M.1 16 0) 17 0) 18 0) 4 (u2.1)) 5 (u2.2.1)) 6 (u2.2.2.1)) 7 (u2.2.2.2.1)) 24 (u2.2.2.2.2.2.2.2.2.1)) 23 (u2.2.2.2.2.2.2.2.2.2.1)) 25 (u2.2.2.2.2.2.2.2.2.2.2)) 14 (u4.1)) 15 (u4.2)), (va_up (va_up M.2.1 2 (u2.2.2.2.2.2.2.2.1)) 1 u6), M.2.2)), (A 7, xc7 Z A ((va_up (va_up (va_up (va_up (va_up (va_up (va_up (va_up (va_up (va_up (va_up (va_up M.1 16 0) 17 0) 18 0) 4 (u2.1)) 5 (u2.2.1)) 6 (u2.2.2.1)) 7 (u2.2.2.2.1)) 24 (u2.2.2.2.2.2.2.2.2.1)) 23 (u2.2.2.2.2.2.2.2.2.2.1)) 25 (u2.2.2.2.2.2.2.2.2.2.2)) 14 (u4.1)) 15 (u4.2)), (va_up (va_up M.2.1 2 (u2.2.2.2.2.2.2.2.1)) 1 u6), M.2.2)), (A 8, xc8 Z A ((va_up (va_up (va_up (va_up (va_up (va_up (va_up (va_up (va_up (va_up (va_up (va_up M.1 16 0) 17 0) 18 0) 4 (u2.1)) 5 (u2.2.1)) 6 (u2.2.2.1)) 7 (u2.2.2.2.1)) 24 (u2.2.2.2.2.2.2.2.2.1)) 23 (u2.2.2.2.2.2.2.2.2.2.1)) 25 (u2.2.2.2.2.2.2.2.2.2.2)) 14 (u4.1)) 15 (u4.2)), (va_up (va_up M.2.1 2 (u2.2.2.2.2.2.2.2.1)) 1 u6), M.2.2)), (A 9, xc9 Z A ((va_up (va_up (va_up (va_up (va_up (va_up (va_up (va_up (va_up (va_up (va_up (va_up M.1 16 0) 17 0) 18 0) 4 (u2.1)) 5 (u2.2.1)) 6 (u2.2.2.1)) 7 (u2.2.2.2.1)) 24 (u2.2.2.2.2.2.2.2.2.1)) 23 (u2.2.2.2.2.2.2.2.2.2.1)) 25 (u2.2.2.2.2.2.2.2.2.2.2)) 14 (u4.1)) 15 (u4.2)), (va_up (va_up M.2.1 2 (u2.2.2.2.2.2.2.2.1)) 1 u6), M.2.2)), (A 19, xc19 Z A ((va_up (va_up (va_up (va_up (va_up (va_up (va_up (va_up (va_up (va_up (va_up (va_up M.1 16 0) 17 0) 18 0) 4 (u2.1)) 5 (u2.2.1)) 6 (u2.2.2.1)) 7 (u2.2.2.2.1)) 24 (u2.2.2.2.2.2.2.2.2.1)) 23 (u2.2.2.2.2.2.2.2.2.2.1)) 25 (u2.2.2.2.2.2.2.2.2.2.2)) 14 (u4.1)) 15 (u4.2)), (va_up (va_up M.2.1 2 (u2.2.2.2.2.2.2.2.1)) 1 u6), M.2.2)), (A 11, xc11 Z A ((va_up (va_up (va_up (va_up (va_up (va_up (va_up (va_up (va_up (va_up (va_up (va_up M.1 16 0) 17 0) 18 0) 4 (u2.1)) 5 (u2.2.1)) 6 (u2.2.2.1)) 7 (u2.2.2.2.1)) 24 (u2.2.2.2.2.2.2.2.2.1)) 23 (u2.2.2.2.2.2.2.2.2.2.1)) 25 (u2.2.2.2.2.2.2.2.2.2.2)) 14 (u4.1)) 15 (u4.2)), (va_up (va_up M.2.1 2 (u2.2.2.2.2.2.2.2.1)) 1 u6), M.2.2))]) [13, 0, 1, 2, 3, 15, 14] rfl
    have hDc := hD.sub (ws' := [(A 17, xc17 Z A ((va_up (va_up (va_up (va_up (va_up (va_up (va_up (va_up (va_up (va_up (va_up (va_up M.1 16 0) 17 0) 18 0) 4 (u2.1)) 5 (u2.2.1)) 6 (u2.2.2.1)) 7 (u2.2.2.2.1)) 24 (u2.2.2.2.2.2.2.2.2.1)) 23 (u2.2.2.2.2.2.2.2.2.2.1)) 25 (u2.2.2.2.2.2.2.2.2.2.2)) 14 (u4.1)) 15 (u4.2)), (va_up (va_up M.2.1 2 (u2.2.2.2.2.2.2.2.1)) 1 u6), M.2.2)), (A 6, xc6 Z A ((va_up (va_up (va_up (va_up (va_up (va_up (va_up (va_up (va_up (va_up (va_up (va_up M.1 16 0) 17 0) 18 0) 4 (u2.1)) 5 (u2.2.1)) 6 (u2.2.2.1)) 7 (u2.2.2.2.1)) 24 (u2.2.2.2.2.2.2.2.2.1)) 23 (u2.2.2.2.2.2.2.2.2.2.1)) 25 (u2.2.2.2.2.2.2.2.2.2.2)) 14 (u4.1)) 15 (u4.2)), (va_up (va_up M.2.1 2 (u2.2.2.2.2.2.2.2.1)) 1 u6), M.2.2)), (A 7, xc7 Z A ((va_up (va_up (va_up (va_up (va_up (va_up (va_up (va_up (va_up (va_up (va_up (va_up M.1 16 0) 17 0) 18 0) 4 (u2.1)) 5 (u2.2.1)) 6 (u2.2.2.1)) 7 (u2.2.2.2.1)) 24 (u2.2.2.2.2.2.2.2.2.1)) 23 (u2.2.2.2.2.2.2.2.2.2.1)) 25 (u2.2.2.2.2.2.2.2.2.2.2)) 14 (u4.1)) 15 (u4.2)), (va_up (va_up M.2.1 2 (u2.2.2.2.2.2.2.2.1)) 1 u6), M.2.2)), (A 8, xc8 Z A ((va_up (va_up (va_up (va_up (va_up (va_up (va_up (va_up (va_up (va_up (va_up (va_up M.1 16 0) 17 0) 18 0) 4 (u2.1)) 5 (u2.2.1)) 6 (u2.2.2.1)) 7 (u2.2.2.2.1)) 24 (u2.2.2.2.2.2.2.2.2.1)) 23 (u2.2.2.2.2.2.2.2.2.2.1)) 25 (u2.2.2.2.2.2.2.2.2.2.2)) 14 (u4.1)) 15 (u4.2)), (va_up (va_up M.2.1 2 (u2.2.2.2.2.2.2.2.1)) 1 u6), M.2.2)), (A 9, xc9 Z A ((va_up (va_up (va_up (va_up (va_up (va_up (va_up (va_up (va_up (va_up (va_up (va_up M.1 16 0) 17 0) 18 0) 4 (u2.1)) 5 (u2.2.1)) 6 (u2.2.2.1)) 7 (u2.2.2.2.1)) 24 (u2.2.2.2.2.2.2.2.2.1)) 23 (u2.2.2.2.2.2.2.2.2.2.1)) 25 (u2.2.2.2.2.2.2.2.2.2.2)) 14 (u4.1)) 15 (u4.2)), (va_up (va_up M.2.1 2 (u2.2.2.2.2.2.2.2.1)) 1 u6), M.2.2)), (A 19, xc19 Z A ((va_up (va_up (va_up (va_up (va_up (va_up (va_up (va_up (va_up (va_up (va_up (va_up M.1 16 0) 17 0) 18 0) 4 (u2.1)) 5 (u2.2.1)) 6 (u2.2.2.1)) 7 (u2.2.2.2.1)) 24 (u2.2.2.2.2.2.2.2.2.1)) 23 (u2.2.2.2.2.2.2.2.2.2.1)) 25 (u2.2.2.2.2.2.2.2.2.2.2)) 14 (u4.1)) 15 (u4.2)), (va_up (va_up M.2.1 2 (u2.2.2.2.2.2.2.2.1)) 1 u6), M.2.2)), (A 11, xc11 Z A ((va_up (va_up (va_up (va_up (va_up (va_up (va_up (va_up (va_up (va_up (va_up (va_up M.1 16 0) 17 0) 18 0) 4 (u2.1)) 5 (u2.2.1)) 6 (u2.2.2.1)) 7 (u2.2.2.2.1)) 24 (u2.2.2.2.2.2.2.2.2.1)) 23 (u2.2.2.2.2.2.2.2.2.2.1)) 25 (u2.2.2.2.2.2.2.2.2.2.2)) 14 (u4.1)) 15 (u4.2)), (va_up (va_up M.2.1 2 (u2.2.2.2.2.2.2.2.1)) 1 u6), M.2.2))]) [13, 0, 1, 2, 3, 15, 14] (by decide) rfl
    refine xk_v (wc := [(A 17, xc17 Z A ((va_up (va_up (va_up (va_up (va_up (va_up (va_up (va_up (va_up (va_up (va_up (va_up M.1 16 0) 17 0) 18 0) 4 (u2.1)) 5 (u2.2.1)) 6 (u2.2.2.1)) 7 (u2.2.2.2.1)) 24 (u2.2.2.2.2.2.2.2.2.1)) 23 (u2.2.2.2.2.2.2.2.2.2.1)) 25 (u2.2.2.2.2.2.2.2.2.2.2)) 14 (u4.1)) 15 (u4.2)), (va_up (va_up M.2.1 2 (u2.2.2.2.2.2.2.2.1)) 1 u6), M.2.2)), (A 6, xc6 Z A ((va_up (va_up (va_up (va_up (va_up (va_up (va_up (va_up (va_up (va_up (va_up (va_up M.1 16 0) 17 0) 18 0) 4 (u2.1)) 5 (u2.2.1)) 6 (u2.2.2.1)) 7 (u2.2.2.2.1)) 24 (u2.2.2.2.2.2.2.2.2.1)) 23 (u2.2.2.2.2.2.2.2.2.2.1)) 25 (u2.2.2.2.2.2.2.2.2.2.2)) 14 (u4.1)) 15 (u4.2)), (va_up (va_up M.2.1 2 (u2.2.2.2.2.2.2.2.1)) 1 u6), M.2.2)), (A 7, xc7 Z A ((va_up (va_up (va_up (va_up (va_up (va_up (va_up (va_up (va_up (va_up (va_up (va_up M.1 16 0) 17 0) 18 0) 4 (u2.1)) 5 (u2.2.1)) 6 (u2.2.2.1)) 7 (u2.2.2.2.1)) 24 (u2.2.2.2.2.2.2.2.2.1)) 23 (u2.2.2.2.2.2.2.2.2.2.1)) 25 (u2.2.2.2.2.2.2.2.2.2.2)) 14 (u4.1)) 15 (u4.2)), (va_up (va_up M.2.1 2 (u2.2.2.2.2.2.2.2.1)) 1 u6), M.2.2)), (A 8, xc8 Z A ((va_up (va_up (va_up (va_up (va_up (va_up (va_up (va_up (va_up (va_up (va_up (va_up M.1 16 0) 17 0) 18 0) 4 (u2.1)) 5 (u2.2.1)) 6 (u2.2.2.1)) 7 (u2.2.2.2.1)) 24 (u2.2.2.2.2.2.2.2.2.1)) 23 (u2.2.2.2.2.2.2.2.2.2.1)) 25 (u2.2.2.2.2.2.2.2.2.2.2)) 14 (u4.1)) 15 (u4.2)), (va_up (va_up M.2.1 2 (u2.2.2.2.2.2.2.2.1)) 1 u6), M.2.2)), (A 9, xc9 Z A ((va_up (va_up (va_up (va_up (va_up (va_up (va_up (va_up (va_up (va_up (va_up (va_up M.1 16 0) 17 0) 18 0) 4 (u2.1)) 5 (u2.2.1)) 6 (u2.2.2.1)) 7 (u2.2.2.2.1)) 24 (u2.2.2.2.2.2.2.2.2.1)) 23 (u2.2.2.2.2.2.2.2.2.2.1)) 25 (u2.2.2.2.2.2.2.2.2.2.2)) 14 (u4.1)) 15 (u4.2)), (va_up (va_up M.2.1 2 (u2.2.2.2.2.2.2.2.1)) 1 u6), M.2.2)), (A 19, xc19 Z A ((va_up (va_up (va_up (va_up (va_up (va_up (va_up (va_up (va_up (va_up (va_up (va_up M.1 16 0) 17 0) 18 0) 4 (u2.1)) 5 (u2.2.1)) 6 (u2.2.2.1)) 7 (u2.2.2.2.1)) 24 (u2.2.2.2.2.2.2.2.2.1)) 23 (u2.2.2.2.2.2.2.2.2.2.1)) 25 (u2.2.2.2.2.2.2.2.2.2.2)) 14 (u4.1)) 15 (u4.2)), (va_up (va_up M.2.1 2 (u2.2.2.2.2.2.2.2.1)) 1 u6), M.2.2)), (A 11, xc11 Z A ((va_up (va_up (va_up (va_up (va_up (va_up (va_up (va_up (va_up (va_up (va_up (va_up M.1 16 0) 17 0) 18 0) 4 (u2.1)) 5 (u2.2.1)) 6 (u2.2.2.1)) 7 (u2.2.2.2.1)) 24 (u2.2.2.2.2.2.2.2.2.1)) 23 (u2.2.2.2.2.2.2.2.2.2.1)) 25 (u2.2.2.2.2.2.2.2.2.2.2)) 14 (u4.1)) 15 (u4.2)), (va_up (va_up M.2.1 2 (u2.2.2.2.2.2.2.2.1)) 1 u6), M.2.2))]) (wr := [(A 13, .inr (4, [.ref (A 14), .ref (A 15), .ref (A 16), .int (M.1 11)])), (A 14, .inl (Z 0, 16, .inl (M.2.2.1 14))), (A 15, .inl (Z 1, 16, .inr (.inl (M.2.2.2 15)))), (A 16, .inl (Z 0, 16, .inl (M.2.2.1 16))), (A 10, .inr (2, [.long (M.2.1 0)])), (A 2, .inl (Z 0, 4, .inl (M.2.2.1 2))), (A 12, .inr (1, [.int (M.1 8), .int (M.1 9), .int (M.1 10)])), (A 4, .inl (Z 0, 4, .inl (M.2.2.1 4))), (A 18, .inr (8, [.int (M.1 19), .int (u2.2.2.2.2.1), .int (u2.2.2.2.2.2.1), .int (u2.2.2.2.2.2.2.1)])), (A 1, .inr (5, [.ref (A 2), .ref (A 3), .ref (A 4), .ref (A 5), .int (M.1 0)])), (A 3, .inl (Z 0, 4, .inl (M.2.2.1 3)))]) (va_runV (As := []) (rest := []) ⟨hx, hb, hml, hown, hts⟩ (c_Control_followProgram l dC dI Z A _ ((va_up (va_up (va_up (va_up (va_up (va_up (va_up (va_up (va_up (va_up (va_up (va_up M.1 16 0) 17 0) 18 0) 4 (u2.1)) 5 (u2.2.1)) 6 (u2.2.2.1)) 7 (u2.2.2.2.1)) 24 (u2.2.2.2.2.2.2.2.2.1)) 23 (u2.2.2.2.2.2.2.2.2.2.1)) 25 (u2.2.2.2.2.2.2.2.2.2.2)) 14 (u4.1)) 15 (u4.2)), (va_up (va_up M.2.1 2 (u2.2.2.2.2.2.2.2.1)) 1 u6), M.2.2) hc) (cwV 0 hts (xw_V _ tw_661 tw_663 tp_6 tw_9 tw_664) rfl rfl rfl (by decide +kernel) ⟨Nat.le_of_ble_eq_true rfl, Nat.le_of_ble_eq_true rfl⟩) ⟨xB_blind, va_recv (q0 := 13) (ci := 0) hK hP rfl rfl, fun U hU hW => ⟨rfl, xB_at hPc hK hDc hq U hU hW⟩⟩ rfl rfl hl.1 rfl (lv_room (Nat.le_of_ble_eq_true rfl)) d_Control_order_37 ⟨Nat.le_of_ble_eq_true rfl, Nat.le_of_ble_eq_true rfl⟩) hP hD hS hA [13, 0, 1, 2, 3, 15, 14] [4, 5, 6, 7, 8, 9, 10, 11, 12, 16, 17] rfl rfl (by decide) (by decide) (fun u8 H locs hu8 hP hD hS => ?_)
    have hP : va_P (dC, dI) xcl [(A 13, .inr (4, [.ref (A 14), .ref (A 15), .ref (A 16), .int (M.1 11)])), (A 14, .inl (Z 0, 16, .inl (M.2.2.1 14))), (A 15, .inl (Z 1, 16, .inr (.inl (M.2.2.2 15)))), (A 16, .inl (Z 0, 16, .inl (M.2.2.1 16))), (A 10, .inr (2, [.long (M.2.1 0)])), (A 2, .inl (Z 0, 4, .inl (M.2.2.1 2))), (A 12, .inr (1, [.int (M.1 8), .int (M.1 9), .int (M.1 10)])), (A 4, .inl (Z 0, 4, .inl (M.2.2.1 4))), (A 18, .inr (8, [.int (M.1 19), .int (u2.2.2.2.2.1), .int (u2.2.2.2.2.2.1), .int (u2.2.2.2.2.2.2.1)])), (A 1, .inr (5, [.ref (A 2), .ref (A 3), .ref (A 4), .ref (A 5), .int (M.1 0)])), (A 3, .inl (Z 0, 4, .inl (M.2.2.1 3))), (A 17, .inr (0, [.ref (A 1), .ref (A 6), .ref (A 11), .ref (A 12), .ref (A 13), .ref (A 18), .ref (A 19), .int (M.1 12), .int (M.1 13), .int (u8.2.2.1), .int (u8.2.2.2.1), .int (u8.2.2.2.2.2.1), .int (u8.2.2.2.2.2.2), .int 0])), (A 6, .inr (3, [.ref (A 7), .ref (A 8), .ref (A 9), .int (M.1 1)])), (A 7, .inl (Z 0, 12, .inl (M.2.2.1 7))), (A 8, .inl (Z 0, 12, .inl (M.2.2.1 8))), (A 9, .inl (Z 0, 12, .inl (M.2.2.1 9))), (A 19, .inr (6, [.long u6, .long (u2.2.2.2.2.2.2.2.1), .int (u2.2.2.2.2.2.2.2.2.2.1), .int (u2.2.2.2.2.2.2.2.2.1), .int (u2.2.2.2.2.2.2.2.2.2.2), .int (u8.1), .int (u8.2.1), .int (u8.2.2.2.2.1)])), (A 11, .inr (7, [.int (M.1 2), .int (M.1 3), .int (u2.1), .int (u2.2.1), .int (u2.2.2.1), .int (u2.2.2.2.1)]))] H := hP
    have hD : va_D AA [(A 13, .inr (4, [.ref (A 14), .ref (A 15), .ref (A 16), .int (M.1 11)])), (A 14, .inl (Z 0, 16, .inl (M.2.2.1 14))), (A 15, .inl (Z 1, 16, .inr (.inl (M.2.2.2 15)))), (A 16, .inl (Z 0, 16, .inl (M.2.2.1 16))), (A 10, .inr (2, [.long (M.2.1 0)])), (A 2, .inl (Z 0, 4, .inl (M.2.2.1 2))), (A 12, .inr (1, [.int (M.1 8), .int (M.1 9), .int (M.1 10)])), (A 4, .inl (Z 0, 4, .inl (M.2.2.1 4))), (A 18, .inr (8, [.int (M.1 19), .int (u2.2.2.2.2.1), .int (u2.2.2.2.2.2.1), .int (u2.2.2.2.2.2.2.1)])), (A 1, .inr (5, [.ref (A 2), .ref (A 3), .ref (A 4), .ref (A 5), .int (M.1 0)])), (A 3, .inl (Z 0, 4, .inl (M.2.2.1 3))), (A 17, .inr (0, [.ref (A 1), .ref (A 6), .ref (A 11), .ref (A 12), .ref (A 13), .ref (A 18), .ref (A 19), .int (M.1 12), .int (M.1 13), .int (u8.2.2.1), .int (u8.2.2.2.1), .int (u8.2.2.2.2.2.1), .int (u8.2.2.2.2.2.2), .int 0])), (A 6, .inr (3, [.ref (A 7), .ref (A 8), .ref (A 9), .int (M.1 1)])), (A 7, .inl (Z 0, 12, .inl (M.2.2.1 7))), (A 8, .inl (Z 0, 12, .inl (M.2.2.1 8))), (A 9, .inl (Z 0, 12, .inl (M.2.2.1 9))), (A 19, .inr (6, [.long u6, .long (u2.2.2.2.2.2.2.2.1), .int (u2.2.2.2.2.2.2.2.2.2.1), .int (u2.2.2.2.2.2.2.2.2.1), .int (u2.2.2.2.2.2.2.2.2.2.2), .int (u8.1), .int (u8.2.1), .int (u8.2.2.2.2.1)])), (A 11, .inr (7, [.int (M.1 2), .int (M.1 3), .int (u2.1), .int (u2.2.1), .int (u2.2.2.1), .int (u2.2.2.2.1)]))] := hD
    refine lv_aload_n hx hb d_Control_order_40 rfl (lv_at hl 0 rfl) ?_
    have hPc := hP.sub (ws' := [(A 17, xc17 Z A ((va_up (va_up (va_up (va_up (va_up (va_up (va_up (va_up (va_up (va_up (va_up (va_up (va_up (va_up M.1 18 0) 20 (u2.2.2.2.2.1)) 21 (u2.2.2.2.2.2.1)) 22 (u2.2.2.2.2.2.2.1)) 24 (u2.2.2.2.2.2.2.2.2.1)) 23 (u2.2.2.2.2.2.2.2.2.2.1)) 25 (u2.2.2.2.2.2.2.2.2.2.2)) 26 (u8.1)) 27 (u8.2.1)) 14 (u8.2.2.1)) 15 (u8.2.2.2.1)) 28 (u8.2.2.2.2.1)) 16 (u8.2.2.2.2.2.1)) 17 (u8.2.2.2.2.2.2)), (va_up (va_up M.2.1 2 (u2.2.2.2.2.2.2.2.1)) 1 u6), M.2.2)), (A 18, xc18 Z A ((va_up (va_up (va_up (va_up (va_up (va_up (va_up (va_up (va_up (va_up (va_up (va_up (va_up (va_up M.1 18 0) 20 (u2.2.2.2.2.1)) 21 (u2.2.2.2.2.2.1)) 22 (u2.2.2.2.2.2.2.1)) 24 (u2.2.2.2.2.2.2.2.2.1)) 23 (u2.2.2.2.2.2.2.2.2.2.1)) 25 (u2.2.2.2.2.2.2.2.2.2.2)) 26 (u8.1)) 27 (u8.2.1)) 14 (u8.2.2.1)) 15 (u8.2.2.2.1)) 28 (u8.2.2.2.2.1)) 16 (u8.2.2.2.2.2.1)) 17 (u8.2.2.2.2.2.2)), (va_up (va_up M.2.1 2 (u2.2.2.2.2.2.2.2.1)) 1 u6), M.2.2)), (A 13, xc13 Z A ((va_up (va_up (va_up (va_up (va_up (va_up (va_up (va_up (va_up (va_up (va_up (va_up (va_up (va_up M.1 18 0) 20 (u2.2.2.2.2.1)) 21 (u2.2.2.2.2.2.1)) 22 (u2.2.2.2.2.2.2.1)) 24 (u2.2.2.2.2.2.2.2.2.1)) 23 (u2.2.2.2.2.2.2.2.2.2.1)) 25 (u2.2.2.2.2.2.2.2.2.2.2)) 26 (u8.1)) 27 (u8.2.1)) 14 (u8.2.2.1)) 15 (u8.2.2.2.1)) 28 (u8.2.2.2.2.1)) 16 (u8.2.2.2.2.2.1)) 17 (u8.2.2.2.2.2.2)), (va_up (va_up M.2.1 2 (u2.2.2.2.2.2.2.2.1)) 1 u6), M.2.2)), (A 14, xc14 Z A ((va_up (va_up (va_up (va_up (va_up (va_up (va_up (va_up (va_up (va_up (va_up (va_up (va_up (va_up M.1 18 0) 20 (u2.2.2.2.2.1)) 21 (u2.2.2.2.2.2.1)) 22 (u2.2.2.2.2.2.2.1)) 24 (u2.2.2.2.2.2.2.2.2.1)) 23 (u2.2.2.2.2.2.2.2.2.2.1)) 25 (u2.2.2.2.2.2.2.2.2.2.2)) 26 (u8.1)) 27 (u8.2.1)) 14 (u8.2.2.1)) 15 (u8.2.2.2.1)) 28 (u8.2.2.2.2.1)) 16 (u8.2.2.2.2.2.1)) 17 (u8.2.2.2.2.2.2)), (va_up (va_up M.2.1 2 (u2.2.2.2.2.2.2.2.1)) 1 u6), M.2.2)), (A 15, xc15 Z A ((va_up (va_up (va_up (va_up (va_up (va_up (va_up (va_up (va_up (va_up (va_up (va_up (va_up (va_up M.1 18 0) 20 (u2.2.2.2.2.1)) 21 (u2.2.2.2.2.2.1)) 22 (u2.2.2.2.2.2.2.1)) 24 (u2.2.2.2.2.2.2.2.2.1)) 23 (u2.2.2.2.2.2.2.2.2.2.1)) 25 (u2.2.2.2.2.2.2.2.2.2.2)) 26 (u8.1)) 27 (u8.2.1)) 14 (u8.2.2.1)) 15 (u8.2.2.2.1)) 28 (u8.2.2.2.2.1)) 16 (u8.2.2.2.2.2.1)) 17 (u8.2.2.2.2.2.2)), (va_up (va_up M.2.1 2 (u2.2.2.2.2.2.2.2.1)) 1 u6), M.2.2)), (A 16, xc16 Z A ((va_up (va_up (va_up (va_up (va_up (va_up (va_up (va_up (va_up (va_up (va_up (va_up (va_up (va_up M.1 18 0) 20 (u2.2.2.2.2.1)) 21 (u2.2.2.2.2.2.1)) 22 (u2.2.2.2.2.2.2.1)) 24 (u2.2.2.2.2.2.2.2.2.1)) 23 (u2.2.2.2.2.2.2.2.2.2.1)) 25 (u2.2.2.2.2.2.2.2.2.2.2)) 26 (u8.1)) 27 (u8.2.1)) 14 (u8.2.2.1)) 15 (u8.2.2.2.1)) 28 (u8.2.2.2.2.1)) 16 (u8.2.2.2.2.2.1)) 17 (u8.2.2.2.2.2.2)), (va_up (va_up M.2.1 2 (u2.2.2.2.2.2.2.2.1)) 1 u6), M.2.2)), (A 19, xc19 Z A ((va_up (va_up (va_up (va_up (va_up (va_up (va_up (va_up (va_up (va_up (va_up (va_up (va_up (va_up M.1 18 0) 20 (u2.2.2.2.2.1)) 21 (u2.2.2.2.2.2.1)) 22 (u2.2.2.2.2.2.2.1)) 24 (u2.2.2.2.2.2.2.2.2.1)) 23 (u2.2.2.2.2.2.2.2.2.2.1)) 25 (u2.2.2.2.2.2.2.2.2.2.2)) 26 (u8.1)) 27 (u8.2.1)) 14 (u8.2.2.1)) 15 (u8.2.2.2.1)) 28 (u8.2.2.2.2.1)) 16 (u8.2.2.2.2.2.1)) 17 (u8.2.2.2.2.2.2)), (va_up (va_up M.2.1 2 (u2.2.2.2.2.2.2.2.1)) 1 u6), M.2.2))]) [11, 8, 0, 1, 2, 3, 16] rfl
    have hDc := hD.sub (ws' := [(A 17, xc17 Z A ((va_up (va_up (va_up (va_up (va_up (va_up (va_up (va_up (va_up (va_up (va_up (va_up (va_up (va_up M.1 18 0) 20 (u2.2.2.2.2.1)) 21 (u2.2.2.2.2.2.1)) 22 (u2.2.2.2.2.2.2.1)) 24 (u2.2.2.2.2.2.2.2.2.1)) 23 (u2.2.2.2.2.2.2.2.2.2.1)) 25 (u2.2.2.2.2.2.2.2.2.2.2)) 26 (u8.1)) 27 (u8.2.1)) 14 (u8.2.2.1)) 15 (u8.2.2.2.1)) 28 (u8.2.2.2.2.1)) 16 (u8.2.2.2.2.2.1)) 17 (u8.2.2.2.2.2.2)), (va_up (va_up M.2.1 2 (u2.2.2.2.2.2.2.2.1)) 1 u6), M.2.2)), (A 18, xc18 Z A ((va_up (va_up (va_up (va_up (va_up (va_up (va_up (va_up (va_up (va_up (va_up (va_up (va_up (va_up M.1 18 0) 20 (u2.2.2.2.2.1)) 21 (u2.2.2.2.2.2.1)) 22 (u2.2.2.2.2.2.2.1)) 24 (u2.2.2.2.2.2.2.2.2.1)) 23 (u2.2.2.2.2.2.2.2.2.2.1)) 25 (u2.2.2.2.2.2.2.2.2.2.2)) 26 (u8.1)) 27 (u8.2.1)) 14 (u8.2.2.1)) 15 (u8.2.2.2.1)) 28 (u8.2.2.2.2.1)) 16 (u8.2.2.2.2.2.1)) 17 (u8.2.2.2.2.2.2)), (va_up (va_up M.2.1 2 (u2.2.2.2.2.2.2.2.1)) 1 u6), M.2.2)), (A 13, xc13 Z A ((va_up (va_up (va_up (va_up (va_up (va_up (va_up (va_up (va_up (va_up (va_up (va_up (va_up (va_up M.1 18 0) 20 (u2.2.2.2.2.1)) 21 (u2.2.2.2.2.2.1)) 22 (u2.2.2.2.2.2.2.1)) 24 (u2.2.2.2.2.2.2.2.2.1)) 23 (u2.2.2.2.2.2.2.2.2.2.1)) 25 (u2.2.2.2.2.2.2.2.2.2.2)) 26 (u8.1)) 27 (u8.2.1)) 14 (u8.2.2.1)) 15 (u8.2.2.2.1)) 28 (u8.2.2.2.2.1)) 16 (u8.2.2.2.2.2.1)) 17 (u8.2.2.2.2.2.2)), (va_up (va_up M.2.1 2 (u2.2.2.2.2.2.2.2.1)) 1 u6), M.2.2)), (A 14, xc14 Z A ((va_up (va_up (va_up (va_up (va_up (va_up (va_up (va_up (va_up (va_up (va_up (va_up (va_up (va_up M.1 18 0) 20 (u2.2.2.2.2.1)) 21 (u2.2.2.2.2.2.1)) 22 (u2.2.2.2.2.2.2.1)) 24 (u2.2.2.2.2.2.2.2.2.1)) 23 (u2.2.2.2.2.2.2.2.2.2.1)) 25 (u2.2.2.2.2.2.2.2.2.2.2)) 26 (u8.1)) 27 (u8.2.1)) 14 (u8.2.2.1)) 15 (u8.2.2.2.1)) 28 (u8.2.2.2.2.1)) 16 (u8.2.2.2.2.2.1)) 17 (u8.2.2.2.2.2.2)), (va_up (va_up M.2.1 2 (u2.2.2.2.2.2.2.2.1)) 1 u6), M.2.2)), (A 15, xc15 Z A ((va_up (va_up (va_up (va_up (va_up (va_up (va_up (va_up (va_up (va_up (va_up (va_up (va_up (va_up M.1 18 0) 20 (u2.2.2.2.2.1)) 21 (u2.2.2.2.2.2.1)) 22 (u2.2.2.2.2.2.2.1)) 24 (u2.2.2.2.2.2.2.2.2.1)) 23 (u2.2.2.2.2.2.2.2.2.2.1)) 25 (u2.2.2.2.2.2.2.2.2.2.2)) 26 (u8.1)) 27 (u8.2.1)) 14 (u8.2.2.1)) 15 (u8.2.2.2.1)) 28 (u8.2.2.2.2.1)) 16 (u8.2.2.2.2.2.1)) 17 (u8.2.2.2.2.2.2)), (va_up (va_up M.2.1 2 (u2.2.2.2.2.2.2.2.1)) 1 u6), M.2.2)), (A 16, xc16 Z A ((va_up (va_up (va_up (va_up (va_up (va_up (va_up (va_up (va_up (va_up (va_up (va_up (va_up (va_up M.1 18 0) 20 (u2.2.2.2.2.1)) 21 (u2.2.2.2.2.2.1)) 22 (u2.2.2.2.2.2.2.1)) 24 (u2.2.2.2.2.2.2.2.2.1)) 23 (u2.2.2.2.2.2.2.2.2.2.1)) 25 (u2.2.2.2.2.2.2.2.2.2.2)) 26 (u8.1)) 27 (u8.2.1)) 14 (u8.2.2.1)) 15 (u8.2.2.2.1)) 28 (u8.2.2.2.2.1)) 16 (u8.2.2.2.2.2.1)) 17 (u8.2.2.2.2.2.2)), (va_up (va_up M.2.1 2 (u2.2.2.2.2.2.2.2.1)) 1 u6), M.2.2)), (A 19, xc19 Z A ((va_up (va_up (va_up (va_up (va_up (va_up (va_up (va_up (va_up (va_up (va_up (va_up (va_up (va_up M.1 18 0) 20 (u2.2.2.2.2.1)) 21 (u2.2.2.2.2.2.1)) 22 (u2.2.2.2.2.2.2.1)) 24 (u2.2.2.2.2.2.2.2.2.1)) 23 (u2.2.2.2.2.2.2.2.2.2.1)) 25 (u2.2.2.2.2.2.2.2.2.2.2)) 26 (u8.1)) 27 (u8.2.1)) 14 (u8.2.2.1)) 15 (u8.2.2.2.1)) 28 (u8.2.2.2.2.1)) 16 (u8.2.2.2.2.2.1)) 17 (u8.2.2.2.2.2.2)), (va_up (va_up M.2.1 2 (u2.2.2.2.2.2.2.2.1)) 1 u6), M.2.2))]) [11, 8, 0, 1, 2, 3, 16] (by decide) rfl
    refine xk_v (wc := [(A 17, xc17 Z A ((va_up (va_up (va_up (va_up (va_up (va_up (va_up (va_up (va_up (va_up (va_up (va_up (va_up (va_up M.1 18 0) 20 (u2.2.2.2.2.1)) 21 (u2.2.2.2.2.2.1)) 22 (u2.2.2.2.2.2.2.1)) 24 (u2.2.2.2.2.2.2.2.2.1)) 23 (u2.2.2.2.2.2.2.2.2.2.1)) 25 (u2.2.2.2.2.2.2.2.2.2.2)) 26 (u8.1)) 27 (u8.2.1)) 14 (u8.2.2.1)) 15 (u8.2.2.2.1)) 28 (u8.2.2.2.2.1)) 16 (u8.2.2.2.2.2.1)) 17 (u8.2.2.2.2.2.2)), (va_up (va_up M.2.1 2 (u2.2.2.2.2.2.2.2.1)) 1 u6), M.2.2)), (A 18, xc18 Z A ((va_up (va_up (va_up (va_up (va_up (va_up (va_up (va_up (va_up (va_up (va_up (va_up (va_up (va_up M.1 18 0) 20 (u2.2.2.2.2.1)) 21 (u2.2.2.2.2.2.1)) 22 (u2.2.2.2.2.2.2.1)) 24 (u2.2.2.2.2.2.2.2.2.1)) 23 (u2.2.2.2.2.2.2.2.2.2.1)) 25 (u2.2.2.2.2.2.2.2.2.2.2)) 26 (u8.1)) 27 (u8.2.1)) 14 (u8.2.2.1)) 15 (u8.2.2.2.1)) 28 (u8.2.2.2.2.1)) 16 (u8.2.2.2.2.2.1)) 17 (u8.2.2.2.2.2.2)), (va_up (va_up M.2.1 2 (u2.2.2.2.2.2.2.2.1)) 1 u6), M.2.2)), (A 13, xc13 Z A ((va_up (va_up (va_up (va_up (va_up (va_up (va_up (va_up (va_up (va_up (va_up (va_up (va_up (va_up M.1 18 0) 20 (u2.2.2.2.2.1)) 21 (u2.2.2.2.2.2.1)) 22 (u2.2.2.2.2.2.2.1)) 24 (u2.2.2.2.2.2.2.2.2.1)) 23 (u2.2.2.2.2.2.2.2.2.2.1)) 25 (u2.2.2.2.2.2.2.2.2.2.2)) 26 (u8.1)) 27 (u8.2.1)) 14 (u8.2.2.1)) 15 (u8.2.2.2.1)) 28 (u8.2.2.2.2.1)) 16 (u8.2.2.2.2.2.1)) 17 (u8.2.2.2.2.2.2)), (va_up (va_up M.2.1 2 (u2.2.2.2.2.2.2.2.1)) 1 u6), M.2.2)), (A 14, xc14 Z A ((va_up (va_up (va_up (va_up (va_up (va_up (va_up (va_up (va_up (va_up (va_up (va_up (va_up (va_up M.1 18 0) 20 (u2.2.2.2.2.1)) 21 (u2.2.2.2.2.2.1)) 22 (u2.2.2.2.2.2.2.1)) 24 (u2.2.2.2.2.2.2.2.2.1)) 23 (u2.2.2.2.2.2.2.2.2.2.1)) 25 (u2.2.2.2.2.2.2.2.2.2.2)) 26 (u8.1)) 27 (u8.2.1)) 14 (u8.2.2.1)) 15 (u8.2.2.2.1)) 28 (u8.2.2.2.2.1)) 16 (u8.2.2.2.2.2.1)) 17 (u8.2.2.2.2.2.2)), (va_up (va_up M.2.1 2 (u2.2.2.2.2.2.2.2.1)) 1 u6), M.2.2)), (A 15, xc15 Z A ((va_up (va_up (va_up (va_up (va_up (va_up (va_up (va_up (va_up (va_up (va_up (va_up (va_up (va_up M.1 18 0) 20 (u2.2.2.2.2.1)) 21 (u2.2.2.2.2.2.1)) 22 (u2.2.2.2.2.2.2.1)) 24 (u2.2.2.2.2.2.2.2.2.1)) 23 (u2.2.2.2.2.2.2.2.2.2.1)) 25 (u2.2.2.2.2.2.2.2.2.2.2)) 26 (u8.1)) 27 (u8.2.1)) 14 (u8.2.2.1)) 15 (u8.2.2.2.1)) 28 (u8.2.2.2.2.1)) 16 (u8.2.2.2.2.2.1)) 17 (u8.2.2.2.2.2.2)), (va_up (va_up M.2.1 2 (u2.2.2.2.2.2.2.2.1)) 1 u6), M.2.2)), (A 16, xc16 Z A ((va_up (va_up (va_up (va_up (va_up (va_up (va_up (va_up (va_up (va_up (va_up (va_up (va_up (va_up M.1 18 0) 20 (u2.2.2.2.2.1)) 21 (u2.2.2.2.2.2.1)) 22 (u2.2.2.2.2.2.2.1)) 24 (u2.2.2.2.2.2.2.2.2.1)) 23 (u2.2.2.2.2.2.2.2.2.2.1)) 25 (u2.2.2.2.2.2.2.2.2.2.2)) 26 (u8.1)) 27 (u8.2.1)) 14 (u8.2.2.1)) 15 (u8.2.2.2.1)) 28 (u8.2.2.2.2.1)) 16 (u8.2.2.2.2.2.1)) 17 (u8.2.2.2.2.2.2)), (va_up (va_up M.2.1 2 (u2.2.2.2.2.2.2.2.1)) 1 u6), M.2.2)), (A 19, xc19 Z A ((va_up (va_up (va_up (va_up (va_up (va_up (va_up (va_up (va_up (va_up (va_up (va_up (va_up (va_up M.1 18 0) 20 (u2.2.2.2.2.1)) 21 (u2.2.2.2.2.2.1)) 22 (u2.2.2.2.2.2.2.1)) 24 (u2.2.2.2.2.2.2.2.2.1)) 23 (u2.2.2.2.2.2.2.2.2.2.1)) 25 (u2.2.2.2.2.2.2.2.2.2.2)) 26 (u8.1)) 27 (u8.2.1)) 14 (u8.2.2.1)) 15 (u8.2.2.2.1)) 28 (u8.2.2.2.2.1)) 16 (u8.2.2.2.2.2.1)) 17 (u8.2.2.2.2.2.2)), (va_up (va_up M.2.1 2 (u2.2.2.2.2.2.2.2.1)) 1 u6), M.2.2))]) (wr := [(A 10, .inr (2, [.long (M.2.1 0)])), (A 2, .inl (Z 0, 4, .inl (M.2.2.1 2))), (A 12, .inr (1, [.int (M.1 8), .int (M.1 9), .int (M.1 10)])), (A 4, .inl (Z 0, 4, .inl (M.2.2.1 4))), (A 1, .inr (5, [.ref (A 2), .ref (A 3), .ref (A 4), .ref (A 5), .int (M.1 0)])), (A 3, .inl (Z 0, 4, .inl (M.2.2.1 3))), (A 6, .inr (3, [.ref (A 7), .ref (A 8), .ref (A 9), .int (M.1 1)])), (A 7, .inl (Z 0, 12, .inl (M.2.2.1 7))), (A 8, .inl (Z 0, 12, .inl (M.2.2.1 8))), (A 9, .inl (Z 0, 12, .inl (M.2.2.1 9))), (A 11, .inr (7, [.int (M.1 2), .int (M.1 3), .int (u2.1), .int (u2.2.1), .int (u2.2.2.1), .int (u2.2.2.2.1)]))]) (va_runV (As := []) (rest := []) ⟨hx, hb, hml, hown, hts⟩ (c_Control_comeToRest l dC dI Z A _ ((va_up (va_up (va_up (va_up (va_up (va_up (va_up (va_up (va_up (va_up (va_up (va_up (va_up (va_up M.1 18 0) 20 (u2.2.2.2.2.1)) 21 (u2.2.2.2.2.2.1)) 22 (u2.2.2.2.2.2.2.1)) 24 (u2.2.2.2.2.2.2.2.2.1)) 23 (u2.2.2.2.2.2.2.2.2.2.1)) 25 (u2.2.2.2.2.2.2.2.2.2.2)) 26 (u8.1)) 27 (u8.2.1)) 14 (u8.2.2.1)) 15 (u8.2.2.2.1)) 28 (u8.2.2.2.2.1)) 16 (u8.2.2.2.2.2.1)) 17 (u8.2.2.2.2.2.2)), (va_up (va_up M.2.1 2 (u2.2.2.2.2.2.2.2.1)) 1 u6), M.2.2)) (cwV 0 hts (xw_V _ tw_701 tw_703 tp_11 tw_9 tw_704) rfl rfl rfl (by decide +kernel) ⟨Nat.le_of_ble_eq_true rfl, Nat.le_of_ble_eq_true rfl⟩) ⟨xB_blind, va_recv (q0 := 11) (ci := 0) hK hP rfl rfl, fun U hU hW => ⟨rfl, xB_at hPc hK hDc hq U hU hW⟩⟩ rfl rfl hl.1 rfl (lv_room (Nat.le_of_ble_eq_true rfl)) d_Control_order_41 ⟨Nat.le_of_ble_eq_true rfl, Nat.le_of_ble_eq_true rfl⟩) hP hD hS hA [11, 8, 0, 1, 2, 3, 16] [4, 5, 6, 7, 9, 10, 12, 13, 14, 15, 17] rfl rfl (by decide) (by decide) (fun u10 H locs hu10 hP hD hS => ?_)
    have hP : va_P (dC, dI) xcl [(A 10, .inr (2, [.long (M.2.1 0)])), (A 2, .inl (Z 0, 4, .inl (M.2.2.1 2))), (A 12, .inr (1, [.int (M.1 8), .int (M.1 9), .int (M.1 10)])), (A 4, .inl (Z 0, 4, .inl (M.2.2.1 4))), (A 1, .inr (5, [.ref (A 2), .ref (A 3), .ref (A 4), .ref (A 5), .int (M.1 0)])), (A 3, .inl (Z 0, 4, .inl (M.2.2.1 3))), (A 6, .inr (3, [.ref (A 7), .ref (A 8), .ref (A 9), .int (M.1 1)])), (A 7, .inl (Z 0, 12, .inl (M.2.2.1 7))), (A 8, .inl (Z 0, 12, .inl (M.2.2.1 8))), (A 9, .inl (Z 0, 12, .inl (M.2.2.1 9))), (A 11, .inr (7, [.int (M.1 2), .int (M.1 3), .int (u2.1), .int (u2.2.1), .int (u2.2.2.1), .int (u2.2.2.2.1)])), (A 17, .inr (0, [.ref (A 1), .ref (A 6), .ref (A 11), .ref (A 12), .ref (A 13), .ref (A 18), .ref (A 19), .int (M.1 12), .int (M.1 13), .int (u10.2.2.2.2.2.2), .int (u8.2.2.2.1), .int (u10.1), .int (u10.2.1), .int 0])), (A 18, .inr (8, [.int (M.1 19), .int (u2.2.2.2.2.1), .int (u2.2.2.2.2.2.1), .int (u2.2.2.2.2.2.2.1)])), (A 13, .inr (4, [.ref (A 14), .ref (A 15), .ref (A 16), .int (u10.2.2.2.2.2.1)])), (A 14, .inl (Z 0, 16, .inl (u10.2.2.1))), (A 15, .inl (Z 1, 16, .inr (.inl (u10.2.2.2.1)))), (A 16, .inl (Z 0, 16, .inl (u10.2.2.2.2.1))), (A 19, .inr (6, [.long u6, .long (u2.2.2.2.2.2.2.2.1), .int (u2.2.2.2.2.2.2.2.2.2.1), .int (u2.2.2.2.2.2.2.2.2.1), .int (u2.2.2.2.2.2.2.2.2.2.2), .int (u8.1), .int (u8.2.1), .int (u8.2.2.2.2.1)]))] H := hP
    have hD : va_D AA [(A 10, .inr (2, [.long (M.2.1 0)])), (A 2, .inl (Z 0, 4, .inl (M.2.2.1 2))), (A 12, .inr (1, [.int (M.1 8), .int (M.1 9), .int (M.1 10)])), (A 4, .inl (Z 0, 4, .inl (M.2.2.1 4))), (A 1, .inr (5, [.ref (A 2), .ref (A 3), .ref (A 4), .ref (A 5), .int (M.1 0)])), (A 3, .inl (Z 0, 4, .inl (M.2.2.1 3))), (A 6, .inr (3, [.ref (A 7), .ref (A 8), .ref (A 9), .int (M.1 1)])), (A 7, .inl (Z 0, 12, .inl (M.2.2.1 7))), (A 8, .inl (Z 0, 12, .inl (M.2.2.1 8))), (A 9, .inl (Z 0, 12, .inl (M.2.2.1 9))), (A 11, .inr (7, [.int (M.1 2), .int (M.1 3), .int (u2.1), .int (u2.2.1), .int (u2.2.2.1), .int (u2.2.2.2.1)])), (A 17, .inr (0, [.ref (A 1), .ref (A 6), .ref (A 11), .ref (A 12), .ref (A 13), .ref (A 18), .ref (A 19), .int (M.1 12), .int (M.1 13), .int (u10.2.2.2.2.2.2), .int (u8.2.2.2.1), .int (u10.1), .int (u10.2.1), .int 0])), (A 18, .inr (8, [.int (M.1 19), .int (u2.2.2.2.2.1), .int (u2.2.2.2.2.2.1), .int (u2.2.2.2.2.2.2.1)])), (A 13, .inr (4, [.ref (A 14), .ref (A 15), .ref (A 16), .int (u10.2.2.2.2.2.1)])), (A 14, .inl (Z 0, 16, .inl (u10.2.2.1))), (A 15, .inl (Z 1, 16, .inr (.inl (u10.2.2.2.1)))), (A 16, .inl (Z 0, 16, .inl (u10.2.2.2.2.1))), (A 19, .inr (6, [.long u6, .long (u2.2.2.2.2.2.2.2.1), .int (u2.2.2.2.2.2.2.2.2.2.1), .int (u2.2.2.2.2.2.2.2.2.1), .int (u2.2.2.2.2.2.2.2.2.2.2), .int (u8.1), .int (u8.2.1), .int (u8.2.2.2.2.1)]))] := hD
    refine lv_aload_n hx hb d_Control_order_44 rfl (lv_at hl 0 rfl) ?_
    refine lv_aload_n hx hb d_Control_order_45 rfl (lv_at hl 0 rfl) ?_
    refine va_get (D := (dC, dI)) (ci := 0) (v := .ref (A 12)) (C := "CentrifugeUnit$Control") (T := xF0) (N := 14) hx hb htt xin0 hown hK hP 11 rfl rfl 3 (by decide) (htt _ tw_234) (fun _ h9 => h9) rfl d_Control_order_46 ?_
    have hPc := hP.sub (ws' := [(A 12, xc12 Z A M)]) [2] rfl
    have hDc := hD.sub (ws' := [(A 12, xc12 Z A M)]) [2] (by decide) rfl
    refine xk_i (wc := [(A 12, xc12 Z A M)]) (wr := [(A 10, .inr (2, [.long (M.2.1 0)])), (A 2, .inl (Z 0, 4, .inl (M.2.2.1 2))), (A 4, .inl (Z 0, 4, .inl (M.2.2.1 4))), (A 1, .inr (5, [.ref (A 2), .ref (A 3), .ref (A 4), .ref (A 5), .int (M.1 0)])), (A 3, .inl (Z 0, 4, .inl (M.2.2.1 3))), (A 6, .inr (3, [.ref (A 7), .ref (A 8), .ref (A 9), .int (M.1 1)])), (A 7, .inl (Z 0, 12, .inl (M.2.2.1 7))), (A 8, .inl (Z 0, 12, .inl (M.2.2.1 8))), (A 9, .inl (Z 0, 12, .inl (M.2.2.1 9))), (A 11, .inr (7, [.int (M.1 2), .int (M.1 3), .int (u2.1), .int (u2.2.1), .int (u2.2.2.1), .int (u2.2.2.2.1)])), (A 17, .inr (0, [.ref (A 1), .ref (A 6), .ref (A 11), .ref (A 12), .ref (A 13), .ref (A 18), .ref (A 19), .int (M.1 12), .int (M.1 13), .int (u10.2.2.2.2.2.2), .int (u8.2.2.2.1), .int (u10.1), .int (u10.2.1), .int 0])), (A 18, .inr (8, [.int (M.1 19), .int (u2.2.2.2.2.1), .int (u2.2.2.2.2.2.1), .int (u2.2.2.2.2.2.2.1)])), (A 13, .inr (4, [.ref (A 14), .ref (A 15), .ref (A 16), .int (u10.2.2.2.2.2.1)])), (A 14, .inl (Z 0, 16, .inl (u10.2.2.1))), (A 15, .inl (Z 1, 16, .inr (.inl (u10.2.2.2.1)))), (A 16, .inl (Z 0, 16, .inl (u10.2.2.2.2.1))), (A 19, .inr (6, [.long u6, .long (u2.2.2.2.2.2.2.2.1), .int (u2.2.2.2.2.2.2.2.2.2.1), .int (u2.2.2.2.2.2.2.2.2.1), .int (u2.2.2.2.2.2.2.2.2.2.2), .int (u8.1), .int (u8.2.1), .int (u8.2.2.2.2.1)]))]) (va_runV (As := []) (rest := [.ref (A 17)]) ⟨hx, hb, hml, hown, hts⟩ (c_Lid_feedCoil l dC dI Z A _ M) (cwV 0 hts (xw_V _ tw_713 tw_714 tw_715 tw_7 tw_716) rfl rfl rfl (by decide +kernel) ⟨Nat.le_of_ble_eq_true rfl, Nat.le_of_ble_eq_true rfl⟩) ⟨xB_blind, va_recv (q0 := 2) (ci := 1) hK hP rfl rfl, fun U hU hW => ⟨rfl, xB_at hPc hK hDc hq U hU hW⟩⟩ rfl rfl hl.1 rfl (lv_room (Nat.le_of_ble_eq_true rfl)) d_Control_order_49 ⟨Nat.le_of_ble_eq_true rfl, Nat.le_of_ble_eq_true rfl⟩) hP hD hS hA [2] [0, 1, 3, 4, 5, 6, 7, 8, 9, 10, 11, 12, 13, 14, 15, 16, 17] rfl rfl (by decide) (by decide) (fun r13 u12 H locs hu12 hP hD hS => ?_)
    obtain ⟨p14, rfl, rfl⟩ : ∃ z : Int32 × Int32, r13 = z.1 ∧ u12 = z.2 := ⟨(r13, u12), rfl, rfl⟩
    replace hu12 : p14 = (F_Lid_feedCoil M) := hu12
    have hP : va_P (dC, dI) xcl [(A 10, .inr (2, [.long (M.2.1 0)])), (A 2, .inl (Z 0, 4, .inl (M.2.2.1 2))), (A 4, .inl (Z 0, 4, .inl (M.2.2.1 4))), (A 1, .inr (5, [.ref (A 2), .ref (A 3), .ref (A 4), .ref (A 5), .int (M.1 0)])), (A 3, .inl (Z 0, 4, .inl (M.2.2.1 3))), (A 6, .inr (3, [.ref (A 7), .ref (A 8), .ref (A 9), .int (M.1 1)])), (A 7, .inl (Z 0, 12, .inl (M.2.2.1 7))), (A 8, .inl (Z 0, 12, .inl (M.2.2.1 8))), (A 9, .inl (Z 0, 12, .inl (M.2.2.1 9))), (A 11, .inr (7, [.int (M.1 2), .int (M.1 3), .int (u2.1), .int (u2.2.1), .int (u2.2.2.1), .int (u2.2.2.2.1)])), (A 17, .inr (0, [.ref (A 1), .ref (A 6), .ref (A 11), .ref (A 12), .ref (A 13), .ref (A 18), .ref (A 19), .int (M.1 12), .int (M.1 13), .int (u10.2.2.2.2.2.2), .int (u8.2.2.2.1), .int (u10.1), .int (u10.2.1), .int 0])), (A 18, .inr (8, [.int (M.1 19), .int (u2.2.2.2.2.1), .int (u2.2.2.2.2.2.1), .int (u2.2.2.2.2.2.2.1)])), (A 13, .inr (4, [.ref (A 14), .ref (A 15), .ref (A 16), .int (u10.2.2.2.2.2.1)])), (A 14, .inl (Z 0, 16, .inl (u10.2.2.1))), (A 15, .inl (Z 1, 16, .inr (.inl (u10.2.2.2.1)))), (A 16, .inl (Z 0, 16, .inl (u10.2.2.2.2.1))), (A 19, .inr (6, [.long u6, .long (u2.2.2.2.2.2.2.2.1), .int (u2.2.2.2.2.2.2.2.2.2.1), .int (u2.2.2.2.2.2.2.2.2.1), .int (u2.2.2.2.2.2.2.2.2.2.2), .int (u8.1), .int (u8.2.1), .int (u8.2.2.2.2.1)])), (A 12, .inr (1, [.int (M.1 8), .int (M.1 9), .int (p14.2)]))] H := hP
    have hD : va_D AA [(A 10, .inr (2, [.long (M.2.1 0)])), (A 2, .inl (Z 0, 4, .inl (M.2.2.1 2))), (A 4, .inl (Z 0, 4, .inl (M.2.2.1 4))), (A 1, .inr (5, [.ref (A 2), .ref (A 3), .ref (A 4), .ref (A 5), .int (M.1 0)])), (A 3, .inl (Z 0, 4, .inl (M.2.2.1 3))), (A 6, .inr (3, [.ref (A 7), .ref (A 8), .ref (A 9), .int (M.1 1)])), (A 7, .inl (Z 0, 12, .inl (M.2.2.1 7))), (A 8, .inl (Z 0, 12, .inl (M.2.2.1 8))), (A 9, .inl (Z 0, 12, .inl (M.2.2.1 9))), (A 11, .inr (7, [.int (M.1 2), .int (M.1 3), .int (u2.1), .int (u2.2.1), .int (u2.2.2.1), .int (u2.2.2.2.1)])), (A 17, .inr (0, [.ref (A 1), .ref (A 6), .ref (A 11), .ref (A 12), .ref (A 13), .ref (A 18), .ref (A 19), .int (M.1 12), .int (M.1 13), .int (u10.2.2.2.2.2.2), .int (u8.2.2.2.1), .int (u10.1), .int (u10.2.1), .int 0])), (A 18, .inr (8, [.int (M.1 19), .int (u2.2.2.2.2.1), .int (u2.2.2.2.2.2.1), .int (u2.2.2.2.2.2.2.1)])), (A 13, .inr (4, [.ref (A 14), .ref (A 15), .ref (A 16), .int (u10.2.2.2.2.2.1)])), (A 14, .inl (Z 0, 16, .inl (u10.2.2.1))), (A 15, .inl (Z 1, 16, .inr (.inl (u10.2.2.2.1)))), (A 16, .inl (Z 0, 16, .inl (u10.2.2.2.2.1))), (A 19, .inr (6, [.long u6, .long (u2.2.2.2.2.2.2.2.1), .int (u2.2.2.2.2.2.2.2.2.2.1), .int (u2.2.2.2.2.2.2.2.2.1), .int (u2.2.2.2.2.2.2.2.2.2.2), .int (u8.1), .int (u8.2.1), .int (u8.2.2.2.2.1)])), (A 12, .inr (1, [.int (M.1 8), .int (M.1 9), .int (p14.2)]))] := hD
    refine va_put (D := (dC, dI)) (ci := 0) (v := .int p14.1) (ty := .boolean) (C := "CentrifugeUnit$Control") (T := xF0) (N := 14) hx hb htt xin0 xT0 xTo0 xNm0 hown hK hP hD hS 10 rfl rfl 13 (by decide) (htt _ tw_252) (fun _ h9 => h9) rfl (by decide +kernel) (xz_nar (by rw [hu12]; exact f01_Lid_feedCoil M)) (xz_fit (by rw [hu12]; exact f01_Lid_feedCoil M)) (Nat.le_of_ble_eq_true rfl) d_Control_order_52 (fun H locs hP hD hS => ?_)
    have hP : va_P (dC, dI) xcl [(A 10, .inr (2, [.long (M.2.1 0)])), (A 2, .inl (Z 0, 4, .inl (M.2.2.1 2))), (A 4, .inl (Z 0, 4, .inl (M.2.2.1 4))), (A 1, .inr (5, [.ref (A 2), .ref (A 3), .ref (A 4), .ref (A 5), .int (M.1 0)])), (A 3, .inl (Z 0, 4, .inl (M.2.2.1 3))), (A 6, .inr (3, [.ref (A 7), .ref (A 8), .ref (A 9), .int (M.1 1)])), (A 7, .inl (Z 0, 12, .inl (M.2.2.1 7))), (A 8, .inl (Z 0, 12, .inl (M.2.2.1 8))), (A 9, .inl (Z 0, 12, .inl (M.2.2.1 9))), (A 11, .inr (7, [.int (M.1 2), .int (M.1 3), .int (u2.1), .int (u2.2.1), .int (u2.2.2.1), .int (u2.2.2.2.1)])), (A 17, .inr (0, [.ref (A 1), .ref (A 6), .ref (A 11), .ref (A 12), .ref (A 13), .ref (A 18), .ref (A 19), .int (M.1 12), .int (M.1 13), .int (u10.2.2.2.2.2.2), .int (u8.2.2.2.1), .int (u10.1), .int (u10.2.1), .int p14.1])), (A 18, .inr (8, [.int (M.1 19), .int (u2.2.2.2.2.1), .int (u2.2.2.2.2.2.1), .int (u2.2.2.2.2.2.2.1)])), (A 13, .inr (4, [.ref (A 14), .ref (A 15), .ref (A 16), .int (u10.2.2.2.2.2.1)])), (A 14, .inl (Z 0, 16, .inl (u10.2.2.1))), (A 15, .inl (Z 1, 16, .inr (.inl (u10.2.2.2.1)))), (A 16, .inl (Z 0, 16, .inl (u10.2.2.2.2.1))), (A 19, .inr (6, [.long u6, .long (u2.2.2.2.2.2.2.2.1), .int (u2.2.2.2.2.2.2.2.2.2.1), .int (u2.2.2.2.2.2.2.2.2.1), .int (u2.2.2.2.2.2.2.2.2.2.2), .int (u8.1), .int (u8.2.1), .int (u8.2.2.2.2.1)])), (A 12, .inr (1, [.int (M.1 8), .int (M.1 9), .int (p14.2)]))] H := hP
    have hD : va_D AA [(A 10, .inr (2, [.long (M.2.1 0)])), (A 2, .inl (Z 0, 4, .inl (M.2.2.1 2))), (A 4, .inl (Z 0, 4, .inl (M.2.2.1 4))), (A 1, .inr (5, [.ref (A 2), .ref (A 3), .ref (A 4), .ref (A 5), .int (M.1 0)])), (A 3, .inl (Z 0, 4, .inl (M.2.2.1 3))), (A 6, .inr (3, [.ref (A 7), .ref (A 8), .ref (A 9), .int (M.1 1)])), (A 7, .inl (Z 0, 12, .inl (M.2.2.1 7))), (A 8, .inl (Z 0, 12, .inl (M.2.2.1 8))), (A 9, .inl (Z 0, 12, .inl (M.2.2.1 9))), (A 11, .inr (7, [.int (M.1 2), .int (M.1 3), .int (u2.1), .int (u2.2.1), .int (u2.2.2.1), .int (u2.2.2.2.1)])), (A 17, .inr (0, [.ref (A 1), .ref (A 6), .ref (A 11), .ref (A 12), .ref (A 13), .ref (A 18), .ref (A 19), .int (M.1 12), .int (M.1 13), .int (u10.2.2.2.2.2.2), .int (u8.2.2.2.1), .int (u10.1), .int (u10.2.1), .int p14.1])), (A 18, .inr (8, [.int (M.1 19), .int (u2.2.2.2.2.1), .int (u2.2.2.2.2.2.1), .int (u2.2.2.2.2.2.2.1)])), (A 13, .inr (4, [.ref (A 14), .ref (A 15), .ref (A 16), .int (u10.2.2.2.2.2.1)])), (A 14, .inl (Z 0, 16, .inl (u10.2.2.1))), (A 15, .inl (Z 1, 16, .inr (.inl (u10.2.2.2.1)))), (A 16, .inl (Z 0, 16, .inl (u10.2.2.2.2.1))), (A 19, .inr (6, [.long u6, .long (u2.2.2.2.2.2.2.2.1), .int (u2.2.2.2.2.2.2.2.2.2.1), .int (u2.2.2.2.2.2.2.2.2.1), .int (u2.2.2.2.2.2.2.2.2.2.2), .int (u8.1), .int (u8.2.1), .int (u8.2.2.2.2.1)])), (A 12, .inr (1, [.int (M.1 8), .int (M.1 9), .int (p14.2)]))] := hD
    have hP9 := hP.sub (ws' := [(A 17, xc17 Z A (ap_Control_order M ((u10.1), (u10.2.1), p14.1, (u2.1), (u2.2.1), (u2.2.2.1), (u2.2.2.2.1), (u2.2.2.2.2.1), (u2.2.2.2.2.2.1), (u2.2.2.2.2.2.2.1), (u2.2.2.2.2.2.2.2.1), (u2.2.2.2.2.2.2.2.2.1), (u2.2.2.2.2.2.2.2.2.2.1), (u2.2.2.2.2.2.2.2.2.2.2), (u10.2.2.2.2.2.2), (u8.2.2.2.1), u6, (u8.1), (u8.2.1), (u8.2.2.2.2.1), (u10.2.2.1), (u10.2.2.2.1), (u10.2.2.2.2.1), (u10.2.2.2.2.2.1), (p14.2)))), (A 10, xc10 Z A (ap_Control_order M ((u10.1), (u10.2.1), p14.1, (u2.1), (u2.2.1), (u2.2.2.1), (u2.2.2.2.1), (u2.2.2.2.2.1), (u2.2.2.2.2.2.1), (u2.2.2.2.2.2.2.1), (u2.2.2.2.2.2.2.2.1), (u2.2.2.2.2.2.2.2.2.1), (u2.2.2.2.2.2.2.2.2.2.1), (u2.2.2.2.2.2.2.2.2.2.2), (u10.2.2.2.2.2.2), (u8.2.2.2.1), u6, (u8.1), (u8.2.1), (u8.2.2.2.2.1), (u10.2.2.1), (u10.2.2.2.1), (u10.2.2.2.2.1), (u10.2.2.2.2.2.1), (p14.2)))), (A 11, xc11 Z A (ap_Control_order M ((u10.1), (u10.2.1), p14.1, (u2.1), (u2.2.1), (u2.2.2.1), (u2.2.2.2.1), (u2.2.2.2.2.1), (u2.2.2.2.2.2.1), (u2.2.2.2.2.2.2.1), (u2.2.2.2.2.2.2.2.1), (u2.2.2.2.2.2.2.2.2.1), (u2.2.2.2.2.2.2.2.2.2.1), (u2.2.2.2.2.2.2.2.2.2.2), (u10.2.2.2.2.2.2), (u8.2.2.2.1), u6, (u8.1), (u8.2.1), (u8.2.2.2.2.1), (u10.2.2.1), (u10.2.2.2.1), (u10.2.2.2.2.1), (u10.2.2.2.2.2.1), (p14.2)))), (A 18, xc18 Z A (ap_Control_order M ((u10.1), (u10.2.1), p14.1, (u2.1), (u2.2.1), (u2.2.2.1), (u2.2.2.2.1), (u2.2.2.2.2.1), (u2.2.2.2.2.2.1), (u2.2.2.2.2.2.2.1), (u2.2.2.2.2.2.2.2.1), (u2.2.2.2.2.2.2.2.2.1), (u2.2.2.2.2.2.2.2.2.2.1), (u2.2.2.2.2.2.2.2.2.2.2), (u10.2.2.2.2.2.2), (u8.2.2.2.1), u6, (u8.1), (u8.2.1), (u8.2.2.2.2.1), (u10.2.2.1), (u10.2.2.2.1), (u10.2.2.2.2.1), (u10.2.2.2.2.2.1), (p14.2)))), (A 19, xc19 Z A (ap_Control_order M ((u10.1), (u10.2.1), p14.1, (u2.1), (u2.2.1), (u2.2.2.1), (u2.2.2.2.1), (u2.2.2.2.2.1), (u2.2.2.2.2.2.1), (u2.2.2.2.2.2.2.1), (u2.2.2.2.2.2.2.2.1), (u2.2.2.2.2.2.2.2.2.1), (u2.2.2.2.2.2.2.2.2.2.1), (u2.2.2.2.2.2.2.2.2.2.2), (u10.2.2.2.2.2.2), (u8.2.2.2.1), u6, (u8.1), (u8.2.1), (u8.2.2.2.2.1), (u10.2.2.1), (u10.2.2.2.1), (u10.2.2.2.2.1), (u10.2.2.2.2.2.1), (p14.2)))), (A 1, xc1 Z A (ap_Control_order M ((u10.1), (u10.2.1), p14.1, (u2.1), (u2.2.1), (u2.2.2.1), (u2.2.2.2.1), (u2.2.2.2.2.1), (u2.2.2.2.2.2.1), (u2.2.2.2.2.2.2.1), (u2.2.2.2.2.2.2.2.1), (u2.2.2.2.2.2.2.2.2.1), (u2.2.2.2.2.2.2.2.2.2.1), (u2.2.2.2.2.2.2.2.2.2.2), (u10.2.2.2.2.2.2), (u8.2.2.2.1), u6, (u8.1), (u8.2.1), (u8.2.2.2.2.1), (u10.2.2.1), (u10.2.2.2.1), (u10.2.2.2.2.1), (u10.2.2.2.2.2.1), (p14.2)))), (A 2, xc2 Z A (ap_Control_order M ((u10.1), (u10.2.1), p14.1, (u2.1), (u2.2.1), (u2.2.2.1), (u2.2.2.2.1), (u2.2.2.2.2.1), (u2.2.2.2.2.2.1), (u2.2.2.2.2.2.2.1), (u2.2.2.2.2.2.2.2.1), (u2.2.2.2.2.2.2.2.2.1), (u2.2.2.2.2.2.2.2.2.2.1), (u2.2.2.2.2.2.2.2.2.2.2), (u10.2.2.2.2.2.2), (u8.2.2.2.1), u6, (u8.1), (u8.2.1), (u8.2.2.2.2.1), (u10.2.2.1), (u10.2.2.2.1), (u10.2.2.2.2.1), (u10.2.2.2.2.2.1), (p14.2)))), (A 12, xc12 Z A (ap_Control_order M ((u10.1), (u10.2.1), p14.1, (u2.1), (u2.2.1), (u2.2.2.1), (u2.2.2.2.1), (u2.2.2.2.2.1), (u2.2.2.2.2.2.1), (u2.2.2.2.2.2.2.1), (u2.2.2.2.2.2.2.2.1), (u2.2.2.2.2.2.2.2.2.1), (u2.2.2.2.2.2.2.2.2.2.1), (u2.2.2.2.2.2.2.2.2.2.2), (u10.2.2.2.2.2.2), (u8.2.2.2.1), u6, (u8.1), (u8.2.1), (u8.2.2.2.2.1), (u10.2.2.1), (u10.2.2.2.1), (u10.2.2.2.2.1), (u10.2.2.2.2.2.1), (p14.2)))), (A 4, xc4 Z A (ap_Control_order M ((u10.1), (u10.2.1), p14.1, (u2.1), (u2.2.1), (u2.2.2.1), (u2.2.2.2.1), (u2.2.2.2.2.1), (u2.2.2.2.2.2.1), (u2.2.2.2.2.2.2.1), (u2.2.2.2.2.2.2.2.1), (u2.2.2.2.2.2.2.2.2.1), (u2.2.2.2.2.2.2.2.2.2.1), (u2.2.2.2.2.2.2.2.2.2.2), (u10.2.2.2.2.2.2), (u8.2.2.2.1), u6, (u8.1), (u8.2.1), (u8.2.2.2.2.1), (u10.2.2.1), (u10.2.2.2.1), (u10.2.2.2.2.1), (u10.2.2.2.2.2.1), (p14.2)))), (A 3, xc3 Z A (ap_Control_order M ((u10.1), (u10.2.1), p14.1, (u2.1), (u2.2.1), (u2.2.2.1), (u2.2.2.2.1), (u2.2.2.2.2.1), (u2.2.2.2.2.2.1), (u2.2.2.2.2.2.2.1), (u2.2.2.2.2.2.2.2.1), (u2.2.2.2.2.2.2.2.2.1), (u2.2.2.2.2.2.2.2.2.2.1), (u2.2.2.2.2.2.2.2.2.2.2), (u10.2.2.2.2.2.2), (u8.2.2.2.1), u6, (u8.1), (u8.2.1), (u8.2.2.2.2.1), (u10.2.2.1), (u10.2.2.2.1), (u10.2.2.2.2.1), (u10.2.2.2.2.2.1), (p14.2)))), (A 6, xc6 Z A (ap_Control_order M ((u10.1), (u10.2.1), p14.1, (u2.1), (u2.2.1), (u2.2.2.1), (u2.2.2.2.1), (u2.2.2.2.2.1), (u2.2.2.2.2.2.1), (u2.2.2.2.2.2.2.1), (u2.2.2.2.2.2.2.2.1), (u2.2.2.2.2.2.2.2.2.1), (u2.2.2.2.2.2.2.2.2.2.1), (u2.2.2.2.2.2.2.2.2.2.2), (u10.2.2.2.2.2.2), (u8.2.2.2.1), u6, (u8.1), (u8.2.1), (u8.2.2.2.2.1), (u10.2.2.1), (u10.2.2.2.1), (u10.2.2.2.2.1), (u10.2.2.2.2.2.1), (p14.2)))), (A 7, xc7 Z A (ap_Control_order M ((u10.1), (u10.2.1), p14.1, (u2.1), (u2.2.1), (u2.2.2.1), (u2.2.2.2.1), (u2.2.2.2.2.1), (u2.2.2.2.2.2.1), (u2.2.2.2.2.2.2.1), (u2.2.2.2.2.2.2.2.1), (u2.2.2.2.2.2.2.2.2.1), (u2.2.2.2.2.2.2.2.2.2.1), (u2.2.2.2.2.2.2.2.2.2.2), (u10.2.2.2.2.2.2), (u8.2.2.2.1), u6, (u8.1), (u8.2.1), (u8.2.2.2.2.1), (u10.2.2.1), (u10.2.2.2.1), (u10.2.2.2.2.1), (u10.2.2.2.2.2.1), (p14.2)))), (A 8, xc8 Z A (ap_Control_order M ((u10.1), (u10.2.1), p14.1, (u2.1), (u2.2.1), (u2.2.2.1), (u2.2.2.2.1), (u2.2.2.2.2.1), (u2.2.2.2.2.2.1), (u2.2.2.2.2.2.2.1), (u2.2.2.2.2.2.2.2.1), (u2.2.2.2.2.2.2.2.2.1), (u2.2.2.2.2.2.2.2.2.2.1), (u2.2.2.2.2.2.2.2.2.2.2), (u10.2.2.2.2.2.2), (u8.2.2.2.1), u6, (u8.1), (u8.2.1), (u8.2.2.2.2.1), (u10.2.2.1), (u10.2.2.2.1), (u10.2.2.2.2.1), (u10.2.2.2.2.2.1), (p14.2)))), (A 9, xc9 Z A (ap_Control_order M ((u10.1), (u10.2.1), p14.1, (u2.1), (u2.2.1), (u2.2.2.1), (u2.2.2.2.1), (u2.2.2.2.2.1), (u2.2.2.2.2.2.1), (u2.2.2.2.2.2.2.1), (u2.2.2.2.2.2.2.2.1), (u2.2.2.2.2.2.2.2.2.1), (u2.2.2.2.2.2.2.2.2.2.1), (u2.2.2.2.2.2.2.2.2.2.2), (u10.2.2.2.2.2.2), (u8.2.2.2.1), u6, (u8.1), (u8.2.1), (u8.2.2.2.2.1), (u10.2.2.1), (u10.2.2.2.1), (u10.2.2.2.2.1), (u10.2.2.2.2.2.1), (p14.2)))), (A 13, xc13 Z A (ap_Control_order M ((u10.1), (u10.2.1), p14.1, (u2.1), (u2.2.1), (u2.2.2.1), (u2.2.2.2.1), (u2.2.2.2.2.1), (u2.2.2.2.2.2.1), (u2.2.2.2.2.2.2.1), (u2.2.2.2.2.2.2.2.1), (u2.2.2.2.2.2.2.2.2.1), (u2.2.2.2.2.2.2.2.2.2.1), (u2.2.2.2.2.2.2.2.2.2.2), (u10.2.2.2.2.2.2), (u8.2.2.2.1), u6, (u8.1), (u8.2.1), (u8.2.2.2.2.1), (u10.2.2.1), (u10.2.2.2.1), (u10.2.2.2.2.1), (u10.2.2.2.2.2.1), (p14.2)))), (A 14, xc14 Z A (ap_Control_order M ((u10.1), (u10.2.1), p14.1, (u2.1), (u2.2.1), (u2.2.2.1), (u2.2.2.2.1), (u2.2.2.2.2.1), (u2.2.2.2.2.2.1), (u2.2.2.2.2.2.2.1), (u2.2.2.2.2.2.2.2.1), (u2.2.2.2.2.2.2.2.2.1), (u2.2.2.2.2.2.2.2.2.2.1), (u2.2.2.2.2.2.2.2.2.2.2), (u10.2.2.2.2.2.2), (u8.2.2.2.1), u6, (u8.1), (u8.2.1), (u8.2.2.2.2.1), (u10.2.2.1), (u10.2.2.2.1), (u10.2.2.2.2.1), (u10.2.2.2.2.2.1), (p14.2)))), (A 15, xc15 Z A (ap_Control_order M ((u10.1), (u10.2.1), p14.1, (u2.1), (u2.2.1), (u2.2.2.1), (u2.2.2.2.1), (u2.2.2.2.2.1), (u2.2.2.2.2.2.1), (u2.2.2.2.2.2.2.1), (u2.2.2.2.2.2.2.2.1), (u2.2.2.2.2.2.2.2.2.1), (u2.2.2.2.2.2.2.2.2.2.1), (u2.2.2.2.2.2.2.2.2.2.2), (u10.2.2.2.2.2.2), (u8.2.2.2.1), u6, (u8.1), (u8.2.1), (u8.2.2.2.2.1), (u10.2.2.1), (u10.2.2.2.1), (u10.2.2.2.2.1), (u10.2.2.2.2.2.1), (p14.2)))), (A 16, xc16 Z A (ap_Control_order M ((u10.1), (u10.2.1), p14.1, (u2.1), (u2.2.1), (u2.2.2.1), (u2.2.2.2.1), (u2.2.2.2.2.1), (u2.2.2.2.2.2.1), (u2.2.2.2.2.2.2.1), (u2.2.2.2.2.2.2.2.1), (u2.2.2.2.2.2.2.2.2.1), (u2.2.2.2.2.2.2.2.2.2.1), (u2.2.2.2.2.2.2.2.2.2.2), (u10.2.2.2.2.2.2), (u8.2.2.2.1), u6, (u8.1), (u8.2.1), (u8.2.2.2.2.1), (u10.2.2.1), (u10.2.2.2.1), (u10.2.2.2.2.1), (u10.2.2.2.2.2.1), (p14.2))))]) [10, 0, 9, 11, 16, 3, 1, 17, 2, 4, 5, 6, 7, 8, 12, 13, 14, 15] rfl
    have hD9 := hD.sub (ws' := [(A 17, xc17 Z A (ap_Control_order M ((u10.1), (u10.2.1), p14.1, (u2.1), (u2.2.1), (u2.2.2.1), (u2.2.2.2.1), (u2.2.2.2.2.1), (u2.2.2.2.2.2.1), (u2.2.2.2.2.2.2.1), (u2.2.2.2.2.2.2.2.1), (u2.2.2.2.2.2.2.2.2.1), (u2.2.2.2.2.2.2.2.2.2.1), (u2.2.2.2.2.2.2.2.2.2.2), (u10.2.2.2.2.2.2), (u8.2.2.2.1), u6, (u8.1), (u8.2.1), (u8.2.2.2.2.1), (u10.2.2.1), (u10.2.2.2.1), (u10.2.2.2.2.1), (u10.2.2.2.2.2.1), (p14.2)))), (A 10, xc10 Z A (ap_Control_order M ((u10.1), (u10.2.1), p14.1, (u2.1), (u2.2.1), (u2.2.2.1), (u2.2.2.2.1), (u2.2.2.2.2.1), (u2.2.2.2.2.2.1), (u2.2.2.2.2.2.2.1), (u2.2.2.2.2.2.2.2.1), (u2.2.2.2.2.2.2.2.2.1), (u2.2.2.2.2.2.2.2.2.2.1), (u2.2.2.2.2.2.2.2.2.2.2), (u10.2.2.2.2.2.2), (u8.2.2.2.1), u6, (u8.1), (u8.2.1), (u8.2.2.2.2.1), (u10.2.2.1), (u10.2.2.2.1), (u10.2.2.2.2.1), (u10.2.2.2.2.2.1), (p14.2)))), (A 11, xc11 Z A (ap_Control_order M ((u10.1), (u10.2.1), p14.1, (u2.1), (u2.2.1), (u2.2.2.1), (u2.2.2.2.1), (u2.2.2.2.2.1), (u2.2.2.2.2.2.1), (u2.2.2.2.2.2.2.1), (u2.2.2.2.2.2.2.2.1), (u2.2.2.2.2.2.2.2.2.1), (u2.2.2.2.2.2.2.2.2.2.1), (u2.2.2.2.2.2.2.2.2.2.2), (u10.2.2.2.2.2.2), (u8.2.2.2.1), u6, (u8.1), (u8.2.1), (u8.2.2.2.2.1), (u10.2.2.1), (u10.2.2.2.1), (u10.2.2.2.2.1), (u10.2.2.2.2.2.1), (p14.2)))), (A 18, xc18 Z A (ap_Control_order M ((u10.1), (u10.2.1), p14.1, (u2.1), (u2.2.1), (u2.2.2.1), (u2.2.2.2.1), (u2.2.2.2.2.1), (u2.2.2.2.2.2.1), (u2.2.2.2.2.2.2.1), (u2.2.2.2.2.2.2.2.1), (u2.2.2.2.2.2.2.2.2.1), (u2.2.2.2.2.2.2.2.2.2.1), (u2.2.2.2.2.2.2.2.2.2.2), (u10.2.2.2.2.2.2), (u8.2.2.2.1), u6, (u8.1), (u8.2.1), (u8.2.2.2.2.1), (u10.2.2.1), (u10.2.2.2.1), (u10.2.2.2.2.1), (u10.2.2.2.2.2.1), (p14.2)))), (A 19, xc19 Z A (ap_Control_order M ((u10.1), (u10.2.1), p14.1, (u2.1), (u2.2.1), (u2.2.2.1), (u2.2.2.2.1), (u2.2.2.2.2.1), (u2.2.2.2.2.2.1), (u2.2.2.2.2.2.2.1), (u2.2.2.2.2.2.2.2.1), (u2.2.2.2.2.2.2.2.2.1), (u2.2.2.2.2.2.2.2.2.2.1), (u2.2.2.2.2.2.2.2.2.2.2), (u10.2.2.2.2.2.2), (u8.2.2.2.1), u6, (u8.1), (u8.2.1), (u8.2.2.2.2.1), (u10.2.2.1), (u10.2.2.2.1), (u10.2.2.2.2.1), (u10.2.2.2.2.2.1), (p14.2)))), (A 1, xc1 Z A (ap_Control_order M ((u10.1), (u10.2.1), p14.1, (u2.1), (u2.2.1), (u2.2.2.1), (u2.2.2.2.1), (u2.2.2.2.2.1), (u2.2.2.2.2.2.1), (u2.2.2.2.2.2.2.1), (u2.2.2.2.2.2.2.2.1), (u2.2.2.2.2.2.2.2.2.1), (u2.2.2.2.2.2.2.2.2.2.1), (u2.2.2.2.2.2.2.2.2.2.2), (u10.2.2.2.2.2.2), (u8.2.2.2.1), u6, (u8.1), (u8.2.1), (u8.2.2.2.2.1), (u10.2.2.1), (u10.2.2.2.1), (u10.2.2.2.2.1), (u10.2.2.2.2.2.1), (p14.2)))), (A 2, xc2 Z A (ap_Control_order M ((u10.1), (u10.2.1), p14.1, (u2.1), (u2.2.1), (u2.2.2.1), (u2.2.2.2.1), (u2.2.2.2.2.1), (u2.2.2.2.2.2.1), (u2.2.2.2.2.2.2.1), (u2.2.2.2.2.2.2.2.1), (u2.2.2.2.2.2.2.2.2.1), (u2.2.2.2.2.2.2.2.2.2.1), (u2.2.2.2.2.2.2.2.2.2.2), (u10.2.2.2.2.2.2), (u8.2.2.2.1), u6, (u8.1), (u8.2.1), (u8.2.2.2.2.1), (u10.2.2.1), (u10.2.2.2.1), (u10.2.2.2.2.1), (u10.2.2.2.2.2.1), (p14.2)))), (A 12, xc12 Z A (ap_Control_order M ((u10.1), (u10.2.1), p14.1, (u2.1), (u2.2.1), (u2.2.2.1), (u2.2.2.2.1), (u2.2.2.2.2.1), (u2.2.2.2.2.2.1), (u2.2.2.2.2.2.2.1), (u2.2.2.2.2.2.2.2.1), (u2.2.2.2.2.2.2.2.2.1), (u2.2.2.2.2.2.2.2.2.2.1), (u2.2.2.2.2.2.2.2.2.2.2), (u10.2.2.2.2.2.2), (u8.2.2.2.1), u6, (u8.1), (u8.2.1), (u8.2.2.2.2.1), (u10.2.2.1), (u10.2.2.2.1), (u10.2.2.2.2.1), (u10.2.2.2.2.2.1), (p14.2)))), (A 4, xc4 Z A (ap_Control_order M ((u10.1), (u10.2.1), p14.1, (u2.1), (u2.2.1), (u2.2.2.1), (u2.2.2.2.1), (u2.2.2.2.2.1), (u2.2.2.2.2.2.1), (u2.2.2.2.2.2.2.1), (u2.2.2.2.2.2.2.2.1), (u2.2.2.2.2.2.2.2.2.1), (u2.2.2.2.2.2.2.2.2.2.1), (u2.2.2.2.2.2.2.2.2.2.2), (u10.2.2.2.2.2.2), (u8.2.2.2.1), u6, (u8.1), (u8.2.1), (u8.2.2.2.2.1), (u10.2.2.1), (u10.2.2.2.1), (u10.2.2.2.2.1), (u10.2.2.2.2.2.1), (p14.2)))), (A 3, xc3 Z A (ap_Control_order M ((u10.1), (u10.2.1), p14.1, (u2.1), (u2.2.1), (u2.2.2.1), (u2.2.2.2.1), (u2.2.2.2.2.1), (u2.2.2.2.2.2.1), (u2.2.2.2.2.2.2.1), (u2.2.2.2.2.2.2.2.1), (u2.2.2.2.2.2.2.2.2.1), (u2.2.2.2.2.2.2.2.2.2.1), (u2.2.2.2.2.2.2.2.2.2.2), (u10.2.2.2.2.2.2), (u8.2.2.2.1), u6, (u8.1), (u8.2.1), (u8.2.2.2.2.1), (u10.2.2.1), (u10.2.2.2.1), (u10.2.2.2.2.1), (u10.2.2.2.2.2.1), (p14.2)))), (A 6, xc6 Z A (ap_Control_order M ((u10.1), (u10.2.1), p14.1, (u2.1), (u2.2.1), (u2.2.2.1), (u2.2.2.2.1), (u2.2.2.2.2.1), (u2.2.2.2.2.2.1), (u2.2.2.2.2.2.2.1), (u2.2.2.2.2.2.2.2.1), (u2.2.2.2.2.2.2.2.2.1), (u2.2.2.2.2.2.2.2.2.2.1), (u2.2.2.2.2.2.2.2.2.2.2), (u10.2.2.2.2.2.2), (u8.2.2.2.1), u6, (u8.1), (u8.2.1), (u8.2.2.2.2.1), (u10.2.2.1), (u10.2.2.2.1), (u10.2.2.2.2.1), (u10.2.2.2.2.2.1), (p14.2)))), (A 7, xc7 Z A (ap_Control_order M ((u10.1), (u10.2.1), p14.1, (u2.1), (u2.2.1), (u2.2.2.1), (u2.2.2.2.1), (u2.2.2.2.2.1), (u2.2.2.2.2.2.1), (u2.2.2.2.2.2.2.1), (u2.2.2.2.2.2.2.2.1), (u2.2.2.2.2.2.2.2.2.1), (u2.2.2.2.2.2.2.2.2.2.1), (u2.2.2.2.2.2.2.2.2.2.2), (u10.2.2.2.2.2.2), (u8.2.2.2.1), u6, (u8.1), (u8.2.1), (u8.2.2.2.2.1), (u10.2.2.1), (u10.2.2.2.1), (u10.2.2.2.2.1), (u10.2.2.2.2.2.1), (p14.2)))), (A 8, xc8 Z A (ap_Control_order M ((u10.1), (u10.2.1), p14.1, (u2.1), (u2.2.1), (u2.2.2.1), (u2.2.2.2.1), (u2.2.2.2.2.1), (u2.2.2.2.2.2.1), (u2.2.2.2.2.2.2.1), (u2.2.2.2.2.2.2.2.1), (u2.2.2.2.2.2.2.2.2.1), (u2.2.2.2.2.2.2.2.2.2.1), (u2.2.2.2.2.2.2.2.2.2.2), (u10.2.2.2.2.2.2), (u8.2.2.2.1), u6, (u8.1), (u8.2.1), (u8.2.2.2.2.1), (u10.2.2.1), (u10.2.2.2.1), (u10.2.2.2.2.1), (u10.2.2.2.2.2.1), (p14.2)))), (A 9, xc9 Z A (ap_Control_order M ((u10.1), (u10.2.1), p14.1, (u2.1), (u2.2.1), (u2.2.2.1), (u2.2.2.2.1), (u2.2.2.2.2.1), (u2.2.2.2.2.2.1), (u2.2.2.2.2.2.2.1), (u2.2.2.2.2.2.2.2.1), (u2.2.2.2.2.2.2.2.2.1), (u2.2.2.2.2.2.2.2.2.2.1), (u2.2.2.2.2.2.2.2.2.2.2), (u10.2.2.2.2.2.2), (u8.2.2.2.1), u6, (u8.1), (u8.2.1), (u8.2.2.2.2.1), (u10.2.2.1), (u10.2.2.2.1), (u10.2.2.2.2.1), (u10.2.2.2.2.2.1), (p14.2)))), (A 13, xc13 Z A (ap_Control_order M ((u10.1), (u10.2.1), p14.1, (u2.1), (u2.2.1), (u2.2.2.1), (u2.2.2.2.1), (u2.2.2.2.2.1), (u2.2.2.2.2.2.1), (u2.2.2.2.2.2.2.1), (u2.2.2.2.2.2.2.2.1), (u2.2.2.2.2.2.2.2.2.1), (u2.2.2.2.2.2.2.2.2.2.1), (u2.2.2.2.2.2.2.2.2.2.2), (u10.2.2.2.2.2.2), (u8.2.2.2.1), u6, (u8.1), (u8.2.1), (u8.2.2.2.2.1), (u10.2.2.1), (u10.2.2.2.1), (u10.2.2.2.2.1), (u10.2.2.2.2.2.1), (p14.2)))), (A 14, xc14 Z A (ap_Control_order M ((u10.1), (u10.2.1), p14.1, (u2.1), (u2.2.1), (u2.2.2.1), (u2.2.2.2.1), (u2.2.2.2.2.1), (u2.2.2.2.2.2.1), (u2.2.2.2.2.2.2.1), (u2.2.2.2.2.2.2.2.1), (u2.2.2.2.2.2.2.2.2.1), (u2.2.2.2.2.2.2.2.2.2.1), (u2.2.2.2.2.2.2.2.2.2.2), (u10.2.2.2.2.2.2), (u8.2.2.2.1), u6, (u8.1), (u8.2.1), (u8.2.2.2.2.1), (u10.2.2.1), (u10.2.2.2.1), (u10.2.2.2.2.1), (u10.2.2.2.2.2.1), (p14.2)))), (A 15, xc15 Z A (ap_Control_order M ((u10.1), (u10.2.1), p14.1, (u2.1), (u2.2.1), (u2.2.2.1), (u2.2.2.2.1), (u2.2.2.2.2.1), (u2.2.2.2.2.2.1), (u2.2.2.2.2.2.2.1), (u2.2.2.2.2.2.2.2.1), (u2.2.2.2.2.2.2.2.2.1), (u2.2.2.2.2.2.2.2.2.2.1), (u2.2.2.2.2.2.2.2.2.2.2), (u10.2.2.2.2.2.2), (u8.2.2.2.1), u6, (u8.1), (u8.2.1), (u8.2.2.2.2.1), (u10.2.2.1), (u10.2.2.2.1), (u10.2.2.2.2.1), (u10.2.2.2.2.2.1), (p14.2)))), (A 16, xc16 Z A (ap_Control_order M ((u10.1), (u10.2.1), p14.1, (u2.1), (u2.2.1), (u2.2.2.1), (u2.2.2.2.1), (u2.2.2.2.2.1), (u2.2.2.2.2.2.1), (u2.2.2.2.2.2.2.1), (u2.2.2.2.2.2.2.2.1), (u2.2.2.2.2.2.2.2.2.1), (u2.2.2.2.2.2.2.2.2.2.1), (u2.2.2.2.2.2.2.2.2.2.2), (u10.2.2.2.2.2.2), (u8.2.2.2.1), u6, (u8.1), (u8.2.1), (u8.2.2.2.2.1), (u10.2.2.1), (u10.2.2.2.1), (u10.2.2.2.2.1), (u10.2.2.2.2.2.1), (p14.2))))]) [10, 0, 9, 11, 16, 3, 1, 17, 2, 4, 5, 6, 7, 8, 12, 13, 14, 15] (by decide) rfl
    exact W.vret hx hb hr (fun t ht hW => ⟨⟨((u10.1), (u10.2.1), p14.1, (u2.1), (u2.2.1), (u2.2.2.1), (u2.2.2.2.1), (u2.2.2.2.2.1), (u2.2.2.2.2.2.1), (u2.2.2.2.2.2.2.1), (u2.2.2.2.2.2.2.2.1), (u2.2.2.2.2.2.2.2.2.1), (u2.2.2.2.2.2.2.2.2.2.1), (u2.2.2.2.2.2.2.2.2.2.2), (u10.2.2.2.2.2.2), (u8.2.2.2.1), u6, (u8.1), (u8.2.1), (u8.2.2.2.2.1), (u10.2.2.1), (u10.2.2.2.1), (u10.2.2.2.2.1), (u10.2.2.2.2.2.1), (p14.2)), rfl, (by rw [F_Control_order, if_neg h1, ← hu2, F_Control_order_k3, ← hu4, F_Control_order_k5, ← hu6, F_Control_order_k7, ← hu8, F_Control_order_k9, ← hu10, F_Control_order_k11, ← hu12, F_Control_order_k15]), xE_at hP9 hK hD9 ht hW⟩, hS.F ht⟩) hS.2.2 d_Control_order_55
  · have hP9 := hP.sub (ws' := [(A 17, xc17 Z A (ap_Control_order M (0, 0, 0, (M.1 4), (M.1 5), (M.1 6), (M.1 7), (M.1 20), (M.1 21), (M.1 22), (M.2.1 2), (M.1 24), (M.1 23), (M.1 25), (M.1 14), (M.1 15), (M.2.1 1), (M.1 26), (M.1 27), (M.1 28), (M.2.2.1 14), (M.2.2.2 15), (M.2.2.1 16), (M.1 11), (M.1 10)))), (A 10, xc10 Z A (ap_Control_order M (0, 0, 0, (M.1 4), (M.1 5), (M.1 6), (M.1 7), (M.1 20), (M.1 21), (M.1 22), (M.2.1 2), (M.1 24), (M.1 23), (M.1 25), (M.1 14), (M.1 15), (M.2.1 1), (M.1 26), (M.1 27), (M.1 28), (M.2.2.1 14), (M.2.2.2 15), (M.2.2.1 16), (M.1 11), (M.1 10)))), (A 11, xc11 Z A (ap_Control_order M (0, 0, 0, (M.1 4), (M.1 5), (M.1 6), (M.1 7), (M.1 20), (M.1 21), (M.1 22), (M.2.1 2), (M.1 24), (M.1 23), (M.1 25), (M.1 14), (M.1 15), (M.2.1 1), (M.1 26), (M.1 27), (M.1 28), (M.2.2.1 14), (M.2.2.2 15), (M.2.2.1 16), (M.1 11), (M.1 10)))), (A 18, xc18 Z A (ap_Control_order M (0, 0, 0, (M.1 4), (M.1 5), (M.1 6), (M.1 7), (M.1 20), (M.1 21), (M.1 22), (M.2.1 2), (M.1 24), (M.1 23), (M.1 25), (M.1 14), (M.1 15), (M.2.1 1), (M.1 26), (M.1 27), (M.1 28), (M.2.2.1 14), (M.2.2.2 15), (M.2.2.1 16), (M.1 11), (M.1 10)))), (A 19, xc19 Z A (ap_Control_order M (0, 0, 0, (M.1 4), (M.1 5), (M.1 6), (M.1 7), (M.1 20), (M.1 21), (M.1 22), (M.2.1 2), (M.1 24), (M.1 23), (M.1 25), (M.1 14), (M.1 15), (M.2.1 1), (M.1 26), (M.1 27), (M.1 28), (M.2.2.1 14), (M.2.2.2 15), (M.2.2.1 16), (M.1 11), (M.1 10)))), (A 1, xc1 Z A (ap_Control_order M (0, 0, 0, (M.1 4), (M.1 5), (M.1 6), (M.1 7), (M.1 20), (M.1 21), (M.1 22), (M.2.1 2), (M.1 24), (M.1 23), (M.1 25), (M.1 14), (M.1 15), (M.2.1 1), (M.1 26), (M.1 27), (M.1 28), (M.2.2.1 14), (M.2.2.2 15), (M.2.2.1 16), (M.1 11), (M.1 10)))), (A 2, xc2 Z A (ap_Control_order M (0, 0, 0, (M.1 4), (M.1 5), (M.1 6), (M.1 7), (M.1 20), (M.1 21), (M.1 22), (M.2.1 2), (M.1 24), (M.1 23), (M.1 25), (M.1 14), (M.1 15), (M.2.1 1), (M.1 26), (M.1 27), (M.1 28), (M.2.2.1 14), (M.2.2.2 15), (M.2.2.1 16), (M.1 11), (M.1 10)))), (A 12, xc12 Z A (ap_Control_order M (0, 0, 0, (M.1 4), (M.1 5), (M.1 6), (M.1 7), (M.1 20), (M.1 21), (M.1 22), (M.2.1 2), (M.1 24), (M.1 23), (M.1 25), (M.1 14), (M.1 15), (M.2.1 1), (M.1 26), (M.1 27), (M.1 28), (M.2.2.1 14), (M.2.2.2 15), (M.2.2.1 16), (M.1 11), (M.1 10)))), (A 4, xc4 Z A (ap_Control_order M (0, 0, 0, (M.1 4), (M.1 5), (M.1 6), (M.1 7), (M.1 20), (M.1 21), (M.1 22), (M.2.1 2), (M.1 24), (M.1 23), (M.1 25), (M.1 14), (M.1 15), (M.2.1 1), (M.1 26), (M.1 27), (M.1 28), (M.2.2.1 14), (M.2.2.2 15), (M.2.2.1 16), (M.1 11), (M.1 10)))), (A 3, xc3 Z A (ap_Control_order M (0, 0, 0, (M.1 4), (M.1 5), (M.1 6), (M.1 7), (M.1 20), (M.1 21), (M.1 22), (M.2.1 2), (M.1 24), (M.1 23), (M.1 25), (M.1 14), (M.1 15), (M.2.1 1), (M.1 26), (M.1 27), (M.1 28), (M.2.2.1 14), (M.2.2.2 15), (M.2.2.1 16), (M.1 11), (M.1 10)))), (A 6, xc6 Z A (ap_Control_order M (0, 0, 0, (M.1 4), (M.1 5), (M.1 6), (M.1 7), (M.1 20), (M.1 21), (M.1 22), (M.2.1 2), (M.1 24), (M.1 23), (M.1 25), (M.1 14), (M.1 15), (M.2.1 1), (M.1 26), (M.1 27), (M.1 28), (M.2.2.1 14), (M.2.2.2 15), (M.2.2.1 16), (M.1 11), (M.1 10)))), (A 7, xc7 Z A (ap_Control_order M (0, 0, 0, (M.1 4), (M.1 5), (M.1 6), (M.1 7), (M.1 20), (M.1 21), (M.1 22), (M.2.1 2), (M.1 24), (M.1 23), (M.1 25), (M.1 14), (M.1 15), (M.2.1 1), (M.1 26), (M.1 27), (M.1 28), (M.2.2.1 14), (M.2.2.2 15), (M.2.2.1 16), (M.1 11), (M.1 10)))), (A 8, xc8 Z A (ap_Control_order M (0, 0, 0, (M.1 4), (M.1 5), (M.1 6), (M.1 7), (M.1 20), (M.1 21), (M.1 22), (M.2.1 2), (M.1 24), (M.1 23), (M.1 25), (M.1 14), (M.1 15), (M.2.1 1), (M.1 26), (M.1 27), (M.1 28), (M.2.2.1 14), (M.2.2.2 15), (M.2.2.1 16), (M.1 11), (M.1 10)))), (A 9, xc9 Z A (ap_Control_order M (0, 0, 0, (M.1 4), (M.1 5), (M.1 6), (M.1 7), (M.1 20), (M.1 21), (M.1 22), (M.2.1 2), (M.1 24), (M.1 23), (M.1 25), (M.1 14), (M.1 15), (M.2.1 1), (M.1 26), (M.1 27), (M.1 28), (M.2.2.1 14), (M.2.2.2 15), (M.2.2.1 16), (M.1 11), (M.1 10)))), (A 13, xc13 Z A (ap_Control_order M (0, 0, 0, (M.1 4), (M.1 5), (M.1 6), (M.1 7), (M.1 20), (M.1 21), (M.1 22), (M.2.1 2), (M.1 24), (M.1 23), (M.1 25), (M.1 14), (M.1 15), (M.2.1 1), (M.1 26), (M.1 27), (M.1 28), (M.2.2.1 14), (M.2.2.2 15), (M.2.2.1 16), (M.1 11), (M.1 10)))), (A 14, xc14 Z A (ap_Control_order M (0, 0, 0, (M.1 4), (M.1 5), (M.1 6), (M.1 7), (M.1 20), (M.1 21), (M.1 22), (M.2.1 2), (M.1 24), (M.1 23), (M.1 25), (M.1 14), (M.1 15), (M.2.1 1), (M.1 26), (M.1 27), (M.1 28), (M.2.2.1 14), (M.2.2.2 15), (M.2.2.1 16), (M.1 11), (M.1 10)))), (A 15, xc15 Z A (ap_Control_order M (0, 0, 0, (M.1 4), (M.1 5), (M.1 6), (M.1 7), (M.1 20), (M.1 21), (M.1 22), (M.2.1 2), (M.1 24), (M.1 23), (M.1 25), (M.1 14), (M.1 15), (M.2.1 1), (M.1 26), (M.1 27), (M.1 28), (M.2.2.1 14), (M.2.2.2 15), (M.2.2.1 16), (M.1 11), (M.1 10)))), (A 16, xc16 Z A (ap_Control_order M (0, 0, 0, (M.1 4), (M.1 5), (M.1 6), (M.1 7), (M.1 20), (M.1 21), (M.1 22), (M.2.1 2), (M.1 24), (M.1 23), (M.1 25), (M.1 14), (M.1 15), (M.2.1 1), (M.1 26), (M.1 27), (M.1 28), (M.2.2.1 14), (M.2.2.2 15), (M.2.2.1 16), (M.1 11), (M.1 10))))]) [0, 1, 2, 3, 4, 5, 6, 7, 8, 9, 10, 11, 12, 13, 14, 15, 16, 17] rfl
    have hD9 := hD.sub (ws' := [(A 17, xc17 Z A (ap_Control_order M (0, 0, 0, (M.1 4), (M.1 5), (M.1 6), (M.1 7), (M.1 20), (M.1 21), (M.1 22), (M.2.1 2), (M.1 24), (M.1 23), (M.1 25), (M.1 14), (M.1 15), (M.2.1 1), (M.1 26), (M.1 27), (M.1 28), (M.2.2.1 14), (M.2.2.2 15), (M.2.2.1 16), (M.1 11), (M.1 10)))), (A 10, xc10 Z A (ap_Control_order M (0, 0, 0, (M.1 4), (M.1 5), (M.1 6), (M.1 7), (M.1 20), (M.1 21), (M.1 22), (M.2.1 2), (M.1 24), (M.1 23), (M.1 25), (M.1 14), (M.1 15), (M.2.1 1), (M.1 26), (M.1 27), (M.1 28), (M.2.2.1 14), (M.2.2.2 15), (M.2.2.1 16), (M.1 11), (M.1 10)))), (A 11, xc11 Z A (ap_Control_order M (0, 0, 0, (M.1 4), (M.1 5), (M.1 6), (M.1 7), (M.1 20), (M.1 21), (M.1 22), (M.2.1 2), (M.1 24), (M.1 23), (M.1 25), (M.1 14), (M.1 15), (M.2.1 1), (M.1 26), (M.1 27), (M.1 28), (M.2.2.1 14), (M.2.2.2 15), (M.2.2.1 16), (M.1 11), (M.1 10)))), (A 18, xc18 Z A (ap_Control_order M (0, 0, 0, (M.1 4), (M.1 5), (M.1 6), (M.1 7), (M.1 20), (M.1 21), (M.1 22), (M.2.1 2), (M.1 24), (M.1 23), (M.1 25), (M.1 14), (M.1 15), (M.2.1 1), (M.1 26), (M.1 27), (M.1 28), (M.2.2.1 14), (M.2.2.2 15), (M.2.2.1 16), (M.1 11), (M.1 10)))), (A 19, xc19 Z A (ap_Control_order M (0, 0, 0, (M.1 4), (M.1 5), (M.1 6), (M.1 7), (M.1 20), (M.1 21), (M.1 22), (M.2.1 2), (M.1 24), (M.1 23), (M.1 25), (M.1 14), (M.1 15), (M.2.1 1), (M.1 26), (M.1 27), (M.1 28), (M.2.2.1 14), (M.2.2.2 15), (M.2.2.1 16), (M.1 11), (M.1 10)))), (A 1, xc1 Z A (ap_Control_order M (0, 0, 0, (M.1 4), (M.1 5), (M.1 6), (M.1 7), (M.1 20), (M.1 21), (M.1 22), (M.2.1 2), (M.1 24), (M.1 23), (M.1 25), (M.1 14), (M.1 15), (M.2.1 1), (M.1 26), (M.1 27), (M.1 28), (M.2.2.1 14), (M.2.2.2 15), (M.2.2.1 16), (M.1 11), (M.1 10)))), (A 2, xc2 Z A (ap_Control_order M (0, 0, 0, (M.1 4), (M.1 5), (M.1 6), (M.1 7), (M.1 20), (M.1 21), (M.1 22), (M.2.1 2), (M.1 24), (M.1 23), (M.1 25), (M.1 14), (M.1 15), (M.2.1 1), (M.1 26), (M.1 27), (M.1 28), (M.2.2.1 14), (M.2.2.2 15), (M.2.2.1 16), (M.1 11), (M.1 10)))), (A 12, xc12 Z A (ap_Control_order M (0, 0, 0, (M.1 4), (M.1 5), (M.1 6), (M.1 7), (M.1 20), (M.1 21), (M.1 22), (M.2.1 2), (M.1 24), (M.1 23), (M.1 25), (M.1 14), (M.1 15), (M.2.1 1), (M.1 26), (M.1 27), (M.1 28), (M.2.2.1 14), (M.2.2.2 15), (M.2.2.1 16), (M.1 11), (M.1 10)))), (A 4, xc4 Z A (ap_Control_order M (0, 0, 0, (M.1 4), (M.1 5), (M.1 6), (M.1 7), (M.1 20), (M.1 21), (M.1 22), (M.2.1 2), (M.1 24), (M.1 23), (M.1 25), (M.1 14), (M.1 15), (M.2.1 1), (M.1 26), (M.1 27), (M.1 28), (M.2.2.1 14), (M.2.2.2 15), (M.2.2.1 16), (M.1 11), (M.1 10)))), (A 3, xc3 Z A (ap_Control_order M (0, 0, 0, (M.1 4), (M.1 5), (M.1 6), (M.1 7), (M.1 20), (M.1 21), (M.1 22), (M.2.1 2), (M.1 24), (M.1 23), (M.1 25), (M.1 14), (M.1 15), (M.2.1 1), (M.1 26), (M.1 27), (M.1 28), (M.2.2.1 14), (M.2.2.2 15), (M.2.2.1 16), (M.1 11), (M.1 10)))), (A 6, xc6 Z A (ap_Control_order M (0, 0, 0, (M.1 4), (M.1 5), (M.1 6), (M.1 7), (M.1 20), (M.1 21), (M.1 22), (M.2.1 2), (M.1 24), (M.1 23), (M.1 25), (M.1 14), (M.1 15), (M.2.1 1), (M.1 26), (M.1 27), (M.1 28), (M.2.2.1 14), (M.2.2.2 15), (M.2.2.1 16), (M.1 11), (M.1 10)))), (A 7, xc7 Z A (ap_Control_order M (0, 0, 0, (M.1 4), (M.1 5), (M.1 6), (M.1 7), (M.1 20), (M.1 21), (M.1 22), (M.2.1 2), (M.1 24), (M.1 23), (M.1 25), (M.1 14), (M.1 15), (M.2.1 1), (M.1 26), (M.1 27), (M.1 28), (M.2.2.1 14), (M.2.2.2 15), (M.2.2.1 16), (M.1 11), (M.1 10)))), (A 8, xc8 Z A (ap_Control_order M (0, 0, 0, (M.1 4), (M.1 5), (M.1 6), (M.1 7), (M.1 20), (M.1 21), (M.1 22), (M.2.1 2), (M.1 24), (M.1 23), (M.1 25), (M.1 14), (M.1 15), (M.2.1 1), (M.1 26), (M.1 27), (M.1 28), (M.2.2.1 14), (M.2.2.2 15), (M.2.2.1 16), (M.1 11), (M.1 10)))), (A 9, xc9 Z A (ap_Control_order M (0, 0, 0, (M.1 4), (M.1 5), (M.1 6), (M.1 7), (M.1 20), (M.1 21), (M.1 22), (M.2.1 2), (M.1 24), (M.1 23), (M.1 25), (M.1 14), (M.1 15), (M.2.1 1), (M.1 26), (M.1 27), (M.1 28), (M.2.2.1 14), (M.2.2.2 15), (M.2.2.1 16), (M.1 11), (M.1 10)))), (A 13, xc13 Z A (ap_Control_order M (0, 0, 0, (M.1 4), (M.1 5), (M.1 6), (M.1 7), (M.1 20), (M.1 21), (M.1 22), (M.2.1 2), (M.1 24), (M.1 23), (M.1 25), (M.1 14), (M.1 15), (M.2.1 1), (M.1 26), (M.1 27), (M.1 28), (M.2.2.1 14), (M.2.2.2 15), (M.2.2.1 16), (M.1 11), (M.1 10)))), (A 14, xc14 Z A (ap_Control_order M (0, 0, 0, (M.1 4), (M.1 5), (M.1 6), (M.1 7), (M.1 20), (M.1 21), (M.1 22), (M.2.1 2), (M.1 24), (M.1 23), (M.1 25), (M.1 14), (M.1 15), (M.2.1 1), (M.1 26), (M.1 27), (M.1 28), (M.2.2.1 14), (M.2.2.2 15), (M.2.2.1 16), (M.1 11), (M.1 10)))), (A 15, xc15 Z A (ap_Control_order M (0, 0, 0, (M.1 4), (M.1 5), (M.1 6), (M.1 7), (M.1 20), (M.1 21), (M.1 22), (M.2.1 2), (M.1 24), (M.1 23), (M.1 25), (M.1 14), (M.1 15), (M.2.1 1), (M.1 26), (M.1 27), (M.1 28), (M.2.2.1 14), (M.2.2.2 15), (M.2.2.1 16), (M.1 11), (M.1 10)))), (A 16, xc16 Z A (ap_Control_order M (0, 0, 0, (M.1 4), (M.1 5), (M.1 6), (M.1 7), (M.1 20), (M.1 21), (M.1 22), (M.2.1 2), (M.1 24), (M.1 23), (M.1 25), (M.1 14), (M.1 15), (M.2.1 1), (M.1 26), (M.1 27), (M.1 28), (M.2.2.1 14), (M.2.2.2 15), (M.2.2.1 16), (M.1 11), (M.1 10))))]) [0, 1, 2, 3, 4, 5, 6, 7, 8, 9, 10, 11, 12, 13, 14, 15, 16, 17] (by decide) rfl
    exact W.vret hx hb hr (fun t ht hW => ⟨⟨(0, 0, 0, (M.1 4), (M.1 5), (M.1 6), (M.1 7), (M.1 20), (M.1 21), (M.1 22), (M.2.1 2), (M.1 24), (M.1 23), (M.1 25), (M.1 14), (M.1 15), (M.2.1 1), (M.1 26), (M.1 27), (M.1 28), (M.2.2.1 14), (M.2.2.2 15), (M.2.2.1 16), (M.1 11), (M.1 10)), rfl, (by rw [F_Control_order, if_pos h1]), xE_at hP9 hK hD9 ht hW⟩, hS.F ht⟩) hS.2.2 d_Control_order_22
end
