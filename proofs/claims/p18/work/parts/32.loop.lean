theorem d_L_law_23 : decode code 23 = .ok (.iload 4, 2) := by decide +kernel
theorem d_L_law_25 : decode code 25 = .ok (.aload_n 0, 1) := by decide +kernel
theorem d_L_law_26 : decode code 26 = .ok (.arraylength, 1) := by decide +kernel
theorem d_L_law_27 : decode code 27 = .ok (.bipush 6, 2) := by decide +kernel
theorem d_L_law_29 : decode code 29 = .ok (.isub, 1) := by decide +kernel
theorem d_L_law_30 : decode code 30 = .ok (.if_icmp .gt 646, 3) := by decide +kernel
theorem d_L_law_670 : decode code 670 = .ok (.iinc 4 6, 3) := by decide +kernel
theorem d_L_law_673 : decode code 673 = .ok (.goto (-650), 3) := by decide +kernel
theorem d_L_law_676 : decode code 676 = .ok (.iconst 1, 1) := by decide +kernel
theorem d_L_law_677 : decode code 677 = .ok (.ireturn, 1) := by decide +kernel
theorem xl_end {L i : Nat} (hL : L < 2 ^ 31) (hi : i < 2 ^ 31) (h : ¬ Int32.ofNat L - 6 < nI i) : i + 6 ≤ L := by
  rw [Int32.lt_iff_toInt_lt, nI_toInt hi, Int32.toInt_sub, show (Int32.ofNat L).toInt = (L : Int) from nI_toInt hL] at h
  simp at h
  rw [Int.bmod_eq_of_le_mul_two (by omega) (by omega)] at h
  omega
set_option maxHeartbeats 4000000 in
/-- the law's loop: Inv at every call, from its head to its exit -/
theorem law_loop (l : Launch) (htl : l.stackTraces = false) (dC : Nat → ClassId) (dI : Nat → Nat → Nat) (Z : Nat → ClassId) (A : Nat → Nat) {p : Program} {e : Env} {s : State} {m : MethodId} {below : List Frame} {meth : Method} {c : Code} {b L : Nat} {sc : Nat → Int32} {AA : Nat → Prop} {Q : State → Prop}
    (hx : p.tables.exec = Jvm.exec) (hb : c.code = code) (hml : c.maxLocals = 8) (hown : s.vm.findClass "CentrifugeUnitLaw" = some m.cls) (htt : ∀ w ∈ xw, w.before #[Value.ref b] s = true) (hq : xq s) (hs : xs s) (hK : va_K (dC, dI) xcl (xty Z) s) (hA : ∀ q, s.heap.size ≤ q → AA q) (hA0 : ∀ q : Nat, q < s.heap.size → ¬ AA q) (hX : va_X b L sc s s.heap) (hbl : b < s.heap.size) (hL : L < 2 ^ 31 - 6)
    (Inv : Nat → XM → Prop) (hok : ∀ i M, i + 6 ≤ L → Inv i M → xOK M (sc i &&& 31) (sc (i + 1)) (sc (i + 2)) (sc (i + 3)) (sc (i + 4)) (sc (i + 5))) (hnx : ∀ i M M2, i + 6 ≤ L → Inv i M → (M2 = xnx M (sc i &&& 31) (sc (i + 1)) (sc (i + 2)) (sc (i + 3)) (sc (i + 4)) (sc (i + 5)) ∨ M2 = M) → Inv (i + 6) M2)
    (hroom : ∀ r, 6 * r + 6 ≤ L → 33 + r + 1 ≤ room_1.cells ∧ 306 + 6 * r + 6 ≤ room_1.slots)
    (kE : ∀ (r : Nat) (H : Heap) (locs : List Loc) (ls : Array Slot), 6 * r ≤ L → va_S AA s.heap H locs → W p l e room_1 s m #[Value.ref b] below meth c H locs (33 + r) (306 + 6 * r) Q (F0 m 676 ls [])) :
    ∀ (n r : Nat) (M : XM) (H : Heap) (locs : List Loc) (ls : Array Slot), L + 6 ≤ 6 * r + 6 * n + 6 → 6 * r ≤ L → Inv (6 * r) M → va_P (dC, dI) xcl (xAll Z A M) H → va_D AA (xAll Z A M) → va_S AA s.heap H locs → lv_has ls 8 [(4, .int (nI (6 * r))), (3, .ref (A 32)), (2, .ref (A 20)), (1, .ref (A 0)), (0, .ref b)] → W p l e room_1 s m #[Value.ref b] below meth c H locs (33 + r) (306 + 6 * r) Q (F0 m 23 ls []) := by
  intro n
  induction n with
  | zero =>
    intro r M H locs ls hn hr hI hP hD hS hl
    have hbA : ¬ AA b := hA0 b hbl
    refine lv_iload hx hb d_L_law_23 (lv_at hl 0 rfl) ?_
    refine lv_aload_n hx hb d_L_law_25 rfl (lv_at hl 4 rfl) ?_
    refine va_slen hx hb hX hbl hbA hS d_L_law_26 ?_
    refine lv_bipush (v := 6) hx hb d_L_law_27 (by decide) ?_
    refine lv_isub hx hb d_L_law_29 ?_
    refine lv_icmp_gt (tgt := 676) hx hb d_L_law_30 rfl (fun _ => kE r H locs ls hr hS) (fun h => ?_)
    have := xl_end (by omega) (by omega) h
    omega
  | succ n ih =>
    intro r M H locs ls hn hr hI hP hD hS hl
    have hbA : ¬ AA b := hA0 b hbl
    refine lv_iload hx hb d_L_law_23 (lv_at hl 0 rfl) ?_
    refine lv_aload_n hx hb d_L_law_25 rfl (lv_at hl 4 rfl) ?_
    refine va_slen hx hb hX hbl hbA hS d_L_law_26 ?_
    refine lv_bipush (v := 6) hx hb d_L_law_27 (by decide) ?_
    refine lv_isub hx hb d_L_law_29 ?_
    refine lv_icmp_gt (tgt := 676) hx hb d_L_law_30 rfl (fun _ => kE r H locs ls hr hS) (fun h => ?_)
    have hi : 6 * r + 6 ≤ L := xl_end (by omega) (by omega) h
    refine law_call l htl dC dI Z A M hx hb hml hown htt hq hs hK hA hA0 hX hbl (by omega) hi hP hD hS hl (hroom r hi).1 (hroom r hi).2 (hok _ M hi hI) (fun M2 H locs ls hM hP hD hS hl => ?_)
    have hI2 : Inv (6 * (r + 1)) M2 := by
      rw [show 6 * (r + 1) = 6 * r + 6 by omega]
      exact hnx _ M M2 hi hI hM
    refine lv_iinc (k := 0) (v := nI (6 * (r + 1))) (lv' := [(4, .int (nI (6 * (r + 1)))), (3, .ref (A 32)), (2, .ref (A 20)), (1, .ref (A 0)), (0, .ref b)]) hx hb d_L_law_670 hl rfl (by rw [show 6 * (r + 1) = 6 * r + 6 by omega, ← nI_add]; rfl) (by decide) rfl (fun ls hl => ?_)
    refine lv_goto (tgt := 23) hx hb d_L_law_673 rfl ?_
    have q := ih (r + 1) M2 H locs ls (by omega) (by omega) hI2 hP hD hS hl
    rw [show 33 + (r + 1) = 33 + r + 1 by omega, show 306 + 6 * (r + 1) = 306 + 6 * r + 6 by omega] at q
    exact q

