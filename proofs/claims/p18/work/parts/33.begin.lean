theorem xb_w {s : State} {b : Nat} (hts : ∀ w ∈ lw_tbl, w.before #[Value.ref b] s = true) : ∀ w ∈ xw, w.before #[Value.ref b] s = true := fun w h => hts w (List.mem_filter.mp h).1
theorem xb_A {s : State} {b : Nat} {ty : FieldType} (h : (Cond.arrayClass ty).before #[Value.ref b] s = true) : ∃ z : ClassId, ArrOfT s z ty ∧ s.vm.findClass ("[" ++ ty.toString) = some z := by
  obtain ⟨z, kA, comp, h1, h2, h3⟩ := Cond.arrayClass_spec h
  exact ⟨z, fun n w => ⟨fun k q => (by cases q), kA, h2, comp, h3⟩, h1⟩
theorem xb_K {s : State} {b : Nat} (htt : ∀ w ∈ xw, w.before #[Value.ref b] s = true) : ∃ (dC : Nat → ClassId) (dI : Nat → Nat → Nat) (Z : Nat → ClassId), va_K (dC, dI) xcl (xty Z) s := by
  obtain ⟨c0, i0, k0⟩ := u_known htt xin0 (htt _ tw_163)
  obtain ⟨c1, i1, k1⟩ := u_known htt xin1 (htt _ tw_124)
  obtain ⟨c2, i2, k2⟩ := u_known htt xin2 (htt _ tw_79)
  obtain ⟨c3, i3, k3⟩ := u_known htt xin3 (htt _ tw_56)
  obtain ⟨c4, i4, k4⟩ := u_known htt xin4 (htt _ tw_142)
  obtain ⟨c5, i5, k5⟩ := u_known htt xin5 (htt _ tw_29)
  obtain ⟨c6, i6, k6⟩ := u_known htt xin6 (htt _ tw_189)
  obtain ⟨c7, i7, k7⟩ := u_known htt xin7 (htt _ tw_90)
  obtain ⟨c8, i8, k8⟩ := u_known htt xin8 (htt _ tw_169)
  obtain ⟨c9, i9, k9⟩ := u_known htt xin9 (htt _ tw_21)
  obtain ⟨c10, i10, k10⟩ := u_known htt xin10 (htt _ tw_774)
  obtain ⟨z0, p0, q0⟩ := xb_A (htt _ tw_54)
  obtain ⟨z1, p1, q1⟩ := xb_A (htt _ tw_161)
  obtain ⟨z2, p2, q2⟩ := xb_A (htt _ tw_915)
  refine ⟨fun c => [c0, c1, c2, c3, c4, c5, c6, c7, c8, c9, c10].getD c c0, fun c => [i0, i1, i2, i3, i4, i5, i6, i7, i8, i9, i10].getD c i0, fun c => [z0, z1, z2].getD c z0, fun c q hq => ?_, fun k q hq => ?_⟩
  · match c, hq with
    | 0, hq => cases hq; exact k0
    | 1, hq => cases hq; exact k1
    | 2, hq => cases hq; exact k2
    | 3, hq => cases hq; exact k3
    | 4, hq => cases hq; exact k4
    | 5, hq => cases hq; exact k5
    | 6, hq => cases hq; exact k6
    | 7, hq => cases hq; exact k7
    | 8, hq => cases hq; exact k8
    | 9, hq => cases hq; exact k9
    | 10, hq => cases hq; exact k10
    | n + 11, hq => cases hq
  · match k, hq with
    | 0, hq => cases hq; exact ⟨p0, q0⟩
    | 1, hq => cases hq; exact ⟨p1, q1⟩
    | 2, hq => cases hq; exact ⟨p2, q2⟩
    | n + 3, hq => cases hq
theorem xb_n {A B : Array Value} {s : State} {a : String} {n : Nat} {m : MethodName} {h : String} (q : (Cond.methodLinkNest a n m h).before A s = true) : (Cond.methodLinkNest a n m h).before B s = true := q
theorem xb_c {A B : Array Value} {s : State} {a c : String} (q : (Cond.castable a c).before A s = true) : (Cond.castable a c).before B s = true := q
theorem xb_d {A B : Array Value} {s : State} {m : MethodName} (q : (Cond.declares m).before A s = true) : (Cond.declares m).before B s = true := q
theorem xb_nc {A B : Array Value} {s : State} {a c : String} (q : (Cond.not (Cond.castable a c)).before A s = true) : (Cond.not (Cond.castable a c)).before B s = true := q
theorem xb_l {A B : Array Value} {s : State} {a n d : String} (q : (Cond.laysStatic a n d).before A s = true) : (Cond.laysStatic a n d).before B s = true := q
theorem xb_r {A B : Array Value} {s : State} {a n d : String} (q : (Cond.isRef (.static a n d)).before A s = true) : (Cond.isRef (.static a n d)).before B s = true := by
  have e : (Term.static a n d).eval A s none [] s = (Term.static a n d).eval B s none [] s := by simp only [Term.eval]
  simp only [Cond.before, Cond.holds, Cond.value] at q ⊢
  rw [← e]
  exact q
theorem xb_s {s : State} {b : Nat} {own tx : String} {k : Nat} (h1 : (Cond.stringRef own k tx).before #[Value.ref b] s = true) (h2 : (Cond.exactly (.string own k) "java/lang/String").before #[Value.ref b] s = true) : ∃ a, vk_R own k tx a s := by
  obtain ⟨a, -, -, -, ha, -⟩ := Cond.exactly_spec h2
  exact ⟨a, vk_R.of h1 ha⟩
set_option maxRecDepth 20000 in
theorem xb_q1 {s : State} {b : Nat} (hts : ∀ w ∈ lw_tbl, w.before #[Value.ref b] s = true) (hgv : (Jvm.Cond.and given_1 narrow_1).before #[Value.ref b] s = true) : ∀ q ∈ xn_nest, (Cond.methodLinkNest q.1 q.2.1 q.2.2.1 q.2.2.2).before #[] s = true := List.forall_mem_cons.mpr ⟨xb_n (hts _ (List.mem_append_right _ (List.mem_of_getElem? (i := 57) (by decide +kernel)))), List.forall_mem_cons.mpr ⟨xb_n (hts _ (List.mem_append_right _ (List.mem_of_getElem? (i := 80) (by decide +kernel)))), List.forall_mem_cons.mpr ⟨xb_n (hts _ (List.mem_append_right _ (List.mem_of_getElem? (i := 91) (by decide +kernel)))), List.forall_mem_cons.mpr ⟨xb_n (hts _ (List.mem_append_right _ (List.mem_of_getElem? (i := 125) (by decide +kernel)))), List.forall_mem_cons.mpr ⟨xb_n (hts _ (List.mem_append_right _ (List.mem_of_getElem? (i := 143) (by decide +kernel)))), List.forall_mem_cons.mpr ⟨xb_n (hts _ (List.mem_append_right _ (List.mem_of_getElem? (i := 170) (by decide +kernel)))), List.forall_mem_cons.mpr ⟨xb_n (hts _ (List.mem_append_right _ (List.mem_of_getElem? (i := 190) (by decide +kernel)))), List.forall_mem_cons.mpr ⟨xb_n (hts _ (List.mem_append_right _ (List.mem_of_getElem? (i := 325) (by decide +kernel)))), List.forall_mem_cons.mpr ⟨xb_n (hts _ (List.mem_append_right _ (List.mem_of_getElem? (i := 464) (by decide +kernel)))), fun _ h => absurd h List.not_mem_nil⟩⟩⟩⟩⟩⟩⟩⟩⟩
set_option maxRecDepth 20000 in
theorem xb_q2 {s : State} {b : Nat} (hts : ∀ w ∈ lw_tbl, w.before #[Value.ref b] s = true) (hgv : (Jvm.Cond.and given_1 narrow_1).before #[Value.ref b] s = true) : ∀ q ∈ xn_str, ∃ a, vk_R q.1 q.2.1 q.2.2 a s := by
  have hf := flat_of_before _ hgv
  exact List.forall_mem_cons.mpr ⟨xb_s (hts _ (List.mem_append_right _ (List.mem_of_getElem? (i := 394) (by decide +kernel)))) (hf (.exactly (.string "CentrifugeUnit" 70) "java/lang/String") (by decide +kernel)), List.forall_mem_cons.mpr ⟨xb_s (hts _ (List.mem_append_right _ (List.mem_of_getElem? (i := 434) (by decide +kernel)))) (hf (.exactly (.string "CentrifugeUnit" 81) "java/lang/String") (by decide +kernel)), List.forall_mem_cons.mpr ⟨xb_s (hts _ (List.mem_append_right _ (List.mem_of_getElem? (i := 453) (by decide +kernel)))) (hf (.exactly (.string "CentrifugeUnit" 91) "java/lang/String") (by decide +kernel)), List.forall_mem_cons.mpr ⟨xb_s (hts _ (List.mem_append_right _ (List.mem_of_getElem? (i := 467) (by decide +kernel)))) (hf (.exactly (.string "CentrifugeUnit" 100) "java/lang/String") (by decide +kernel)), List.forall_mem_cons.mpr ⟨xb_s (hts _ (List.mem_append_right _ (List.mem_of_getElem? (i := 472) (by decide +kernel)))) (hf (.exactly (.string "CentrifugeUnit" 106) "java/lang/String") (by decide +kernel)), List.forall_mem_cons.mpr ⟨xb_s (hts _ (List.mem_append_right _ (List.mem_of_getElem? (i := 489) (by decide +kernel)))) (hf (.exactly (.string "CentrifugeUnit" 118) "java/lang/String") (by decide +kernel)), List.forall_mem_cons.mpr ⟨xb_s (hts _ (List.mem_append_right _ (List.mem_of_getElem? (i := 505) (by decide +kernel)))) (hf (.exactly (.string "CentrifugeUnit" 123) "java/lang/String") (by decide +kernel)), List.forall_mem_cons.mpr ⟨xb_s (hts _ (List.mem_append_right _ (List.mem_of_getElem? (i := 521) (by decide +kernel)))) (hf (.exactly (.string "CentrifugeUnit" 138) "java/lang/String") (by decide +kernel)), List.forall_mem_cons.mpr ⟨xb_s (hts _ (List.mem_append_right _ (List.mem_of_getElem? (i := 535) (by decide +kernel)))) (hf (.exactly (.string "CentrifugeUnit" 154) "java/lang/String") (by decide +kernel)), List.forall_mem_cons.mpr ⟨xb_s (hts _ (List.mem_append_right _ (List.mem_of_getElem? (i := 543) (by decide +kernel)))) (hf (.exactly (.string "CentrifugeUnit" 159) "java/lang/String") (by decide +kernel)), List.forall_mem_cons.mpr ⟨xb_s (hts _ (List.mem_append_right _ (List.mem_of_getElem? (i := 552) (by decide +kernel)))) (hf (.exactly (.string "CentrifugeUnit" 165) "java/lang/String") (by decide +kernel)), List.forall_mem_cons.mpr ⟨xb_s (hts _ (List.mem_append_right _ (List.mem_of_getElem? (i := 560) (by decide +kernel)))) (hf (.exactly (.string "CentrifugeUnit" 176) "java/lang/String") (by decide +kernel)), List.forall_mem_cons.mpr ⟨xb_s (hts _ (List.mem_append_right _ (List.mem_of_getElem? (i := 580) (by decide +kernel)))) (hf (.exactly (.string "CentrifugeUnit" 184) "java/lang/String") (by decide +kernel)), List.forall_mem_cons.mpr ⟨xb_s (hts _ (List.mem_append_right _ (List.mem_of_getElem? (i := 739) (by decide +kernel)))) (hf (.exactly (.string "CentrifugeUnit" 233) "java/lang/String") (by decide +kernel)), List.forall_mem_cons.mpr ⟨xb_s (hts _ (List.mem_append_right _ (List.mem_of_getElem? (i := 748) (by decide +kernel)))) (hf (.exactly (.string "CentrifugeUnit" 253) "java/lang/String") (by decide +kernel)), List.forall_mem_cons.mpr ⟨xb_s (hts _ (List.mem_append_right _ (List.mem_of_getElem? (i := 762) (by decide +kernel)))) (hf (.exactly (.string "CentrifugeUnit" 263) "java/lang/String") (by decide +kernel)), fun _ h => absurd h List.not_mem_nil⟩⟩⟩⟩⟩⟩⟩⟩⟩⟩⟩⟩⟩⟩⟩⟩
set_option maxRecDepth 20000 in
theorem xb_q3 {s : State} {b : Nat} (hts : ∀ w ∈ lw_tbl, w.before #[Value.ref b] s = true) (hgv : (Jvm.Cond.and given_1 narrow_1).before #[Value.ref b] s = true) : ∀ w ∈ xn_cast, w.before #[] s = true := by
  have hf := flat_of_before _ hgv
  exact List.forall_mem_cons.mpr ⟨xb_c (hts _ (List.mem_append_right _ (List.mem_of_getElem? (i := 355) (by decide +kernel)))), List.forall_mem_cons.mpr ⟨xb_d (hts _ (List.mem_append_right _ (List.mem_of_getElem? (i := 356) (by decide +kernel)))), List.forall_mem_cons.mpr ⟨xb_d (hts _ (List.mem_append_right _ (List.mem_of_getElem? (i := 357) (by decide +kernel)))), List.forall_mem_cons.mpr ⟨xb_d (hts _ (List.mem_append_right _ (List.mem_of_getElem? (i := 358) (by decide +kernel)))), List.forall_mem_cons.mpr ⟨xb_d (hts _ (List.mem_append_right _ (List.mem_of_getElem? (i := 359) (by decide +kernel)))), List.forall_mem_cons.mpr ⟨xb_d (hts _ (List.mem_append_right _ (List.mem_of_getElem? (i := 360) (by decide +kernel)))), List.forall_mem_cons.mpr ⟨xb_d (hts _ (List.mem_append_right _ (List.mem_of_getElem? (i := 361) (by decide +kernel)))), List.forall_mem_cons.mpr ⟨xb_c (hts _ (List.mem_append_right _ (List.mem_of_getElem? (i := 427) (by decide +kernel)))), List.forall_mem_cons.mpr ⟨xb_c (hts _ (List.mem_append_right _ (List.mem_of_getElem? (i := 755) (by decide +kernel)))), List.forall_mem_cons.mpr ⟨xb_nc (hf (.not (.castable "java/lang/IllegalStateException" "java/lang/IllegalArgumentException")) (by decide +kernel)), List.forall_mem_cons.mpr ⟨xb_nc (hf (.not (.castable "java/lang/IndexOutOfBoundsException" "java/lang/IllegalArgumentException")) (by decide +kernel)), fun _ h => absurd h List.not_mem_nil⟩⟩⟩⟩⟩⟩⟩⟩⟩⟩⟩
theorem xb_q {s : State} {b : Nat} (hts : ∀ w ∈ lw_tbl, w.before #[Value.ref b] s = true) (hgv : (Jvm.Cond.and given_1 narrow_1).before #[Value.ref b] s = true) : xq s := ⟨xb_q1 hts hgv, xb_q2 hts hgv, xb_q3 hts hgv⟩
set_option maxRecDepth 20000 in
theorem xb_st {s : State} {b : Nat} (hts : ∀ w ∈ lw_tbl, w.before #[Value.ref b] s = true) (hgv : (Jvm.Cond.and given_1 narrow_1).before #[Value.ref b] s = true) : xs s := by
  have hf := flat_of_before _ hgv
  exact List.forall_mem_cons.mpr ⟨xb_l (hts _ (List.mem_append_right _ (List.mem_of_getElem? (i := 380) (by decide +kernel)))), List.forall_mem_cons.mpr ⟨xb_l (hts _ (List.mem_append_right _ (List.mem_of_getElem? (i := 382) (by decide +kernel)))), List.forall_mem_cons.mpr ⟨xb_r (hf (.isRef (.static "java/lang/Throwable" "UNASSIGNED_STACK" "[Ljava/lang/StackTraceElement;")) (by decide +kernel)), List.forall_mem_cons.mpr ⟨xb_r (hf (.isRef (.static "java/lang/Throwable" "SUPPRESSED_SENTINEL" "Ljava/util/List;")) (by decide +kernel)), fun _ h => absurd h List.not_mem_nil⟩⟩⟩⟩
