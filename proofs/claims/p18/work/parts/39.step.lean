set_option maxHeartbeats 4000000 in
set_option maxRecDepth 100000 in
theorem f4_all {N R : XM} (u1 : Int64 × Int64 × Int64 × Int32 × Int32 × Int32 × Int64 × Int64 × Int32 × Int32 × Int32 × Int32) (hT : vRT N R) (n8 : N.1 8 = R.1 121) (n9 : N.1 9 = R.1 122) (n14 : N.1 14 = R.1 110) (n15 : N.1 15 = R.1 111) (n23 : N.1 23 = u1.2.2.2.2.2.2.2.2.2.2.2) (hd : vRd R u1.2.2.2.2.2.2.2.2.2.2.2) (n6 : u1.2.2.1 = (N.1 6).toInt64) (n21 : N.1 21 = u1.2.2.2.2.1) (n22 : N.1 22 = u1.2.2.2.2.2.1) (st : R.1 110 = 0 ∨ R.1 110 = 1 ∨ R.1 110 = 2 ∨ R.1 110 = 3) (h24 : (R.1 110 = 1 ∨ R.1 110 = 2) → (N.1 24 = 0 ↔ u1.2.2.2.2.2.2.2.2.1 = 0)) : F_Control_lookForFault N = F_R_control_j4 R u1 ∧ ((F_R_control_j4 R u1).1 = 0 ∨ (F_R_control_j4 R u1).1 = 1 ∨ (F_R_control_j4 R u1).1 = 2 ∨ (F_R_control_j4 R u1).1 = 3) ∧ (((F_R_control_j4 R u1).1 = 1 ∨ (F_R_control_j4 R u1).1 = 2) → R.1 110 = (F_R_control_j4 R u1).1 ∧ (R.1 110 = 1 ∨ R.1 110 = 2) ∧ u1.2.2.2.2.2.2.2.2.1 = 0) := by
  by_cases tt : R.1 110 = 1 ∨ R.1 110 = 2
  · have w := ft_lw (N := N) (K := ((va_up (va_up (va_up (va_up (va_up (va_up (va_up R.1 118 (u1.2.2.2.1)) 119 (u1.2.2.2.2.1)) 120 (u1.2.2.2.2.2.1)) 117 (u1.2.2.2.2.2.2.2.2.1)) 114 (u1.2.2.2.2.2.2.2.2.2.1)) 115 (u1.2.2.2.2.2.2.2.2.2.2.1)) 116 (u1.2.2.2.2.2.2.2.2.2.2.2)), (va_up (va_up (va_up (va_up (va_up R.2.1 101 (u1.1)) 102 (u1.2.1)) 103 (u1.2.2.1)) 107 (u1.2.2.2.2.2.2.1)) 106 (u1.2.2.2.2.2.2.2.1)), R.2.2)) (R := R) hT n8 n9 (h24 tt) n23 hd rfl n6 n21 n22 n14 n15 tt
    have e : F_R_control_j4 R u1 = F_R_watch ((va_up (va_up (va_up (va_up (va_up (va_up (va_up R.1 118 (u1.2.2.2.1)) 119 (u1.2.2.2.2.1)) 120 (u1.2.2.2.2.2.1)) 117 (u1.2.2.2.2.2.2.2.2.1)) 114 (u1.2.2.2.2.2.2.2.2.2.1)) 115 (u1.2.2.2.2.2.2.2.2.2.2.1)) 116 (u1.2.2.2.2.2.2.2.2.2.2.2)), (va_up (va_up (va_up (va_up (va_up R.2.1 101 (u1.1)) 102 (u1.2.1)) 103 (u1.2.2.1)) 107 (u1.2.2.2.2.2.2.1)) 106 (u1.2.2.2.2.2.2.2.1)), R.2.2) := by
      unfold F_R_control_j4 F_R_control_k2 F_R_control_k3
      rcases tt with q | q
      · rw [if_pos q]
      · rw [if_neg (by rw [q]; decide), if_pos q]
    rw [e]
    generalize F_R_watch ((va_up (va_up (va_up (va_up (va_up (va_up (va_up R.1 118 (u1.2.2.2.1)) 119 (u1.2.2.2.2.1)) 120 (u1.2.2.2.2.2.1)) 117 (u1.2.2.2.2.2.2.2.2.1)) 114 (u1.2.2.2.2.2.2.2.2.2.1)) 115 (u1.2.2.2.2.2.2.2.2.2.2.1)) 116 (u1.2.2.2.2.2.2.2.2.2.2.2)), (va_up (va_up (va_up (va_up (va_up R.2.1 101 (u1.1)) 102 (u1.2.1)) 103 (u1.2.2.1)) 107 (u1.2.2.2.2.2.2.1)) 106 (u1.2.2.2.2.2.2.2.1)), R.2.2) = P at w
    obtain ⟨w1, w2, w3⟩ := w
    refine ⟨w1, Or.inr w3, fun g => ?_⟩
    obtain ⟨g1, g2⟩ := w2 g
    rw [g1]
    exact ⟨rfl, tt, g2⟩
  · have e : F_R_control_j4 R u1 = (R.1 110, R.1 111) := by
      unfold F_R_control_j4
      rw [if_neg (fun q => tt (Or.inl q)), if_neg (fun q => tt (Or.inr q))]
    have e2 : F_Control_lookForFault N = (R.1 110, R.1 111) := by
      unfold F_Control_lookForFault F_Control_lookForFault_k1 F_Control_turning
      rw [n14, n15, if_neg (fun q => tt (Or.inl q)), if_neg (fun q => tt (Or.inr q)), if_pos rfl]
    rw [e, e2]
    exact ⟨rfl, st, fun g => absurd g tt⟩
set_option maxHeartbeats 4000000 in
set_option maxRecDepth 100000 in
theorem ct_on {T : Nat} (hT : T < 2000000000) {C R : XM} (hA : vA C R) (hB : vB T C R) (hp : ¬ R.1 109 = 0) : vCT T R (F_Control_order C) (F_R_control R) := by
  have hsn := sn_all (C := ((va_up (va_up (va_up C.1 16 0) 17 0) 18 0), C.2)) (R := R) (T := T) hA hB
  have hA0 := hA
  have hB0 := hB
  obtain ⟨a0, a0r, a1, a1r, a2, a2r, a3, a3r, a8, a9, a12, a13, a19, aT, aP⟩ := hA
  obtain ⟨b1, b2, b3, ⟨b4a, b4b, b4c⟩, ⟨b5, b5d⟩, ⟨b6, b6r⟩, b7, b8, ⟨b9, b9r⟩, b10, ⟨b11, b11r⟩, ⟨b12, b12r, b12k⟩, b13, b14, b15⟩ := hB
  unfold F_Control_order F_R_control F_R_control_k1 F_Control_order_k1
  rw [if_neg (by rw [a12]; exact hp)]
  generalize F_Control_readSensors ((va_up (va_up (va_up C.1 16 0) 17 0) 18 0), C.2) = u2 at hsn ⊢
  generalize F_R_sense R = u1 at hsn ⊢
  obtain ⟨⟨n1, n1r⟩, n2, ⟨n3a, n3b, n3c⟩, n4, ⟨n5, n5d⟩, n6⟩ := hsn
  obtain ⟨f1, f2, f3⟩ := f4_all (N := ((va_up (va_up (va_up (va_up (va_up (va_up (va_up (va_up (va_up (va_up (va_up (va_up (va_up C.1 16 0) 17 0) 18 0) 4 (u2.1)) 5 (u2.2.1)) 6 (u2.2.2.1)) 7 (u2.2.2.2.1)) 20 (u2.2.2.2.2.1)) 21 (u2.2.2.2.2.2.1)) 22 (u2.2.2.2.2.2.2.1)) 24 (u2.2.2.2.2.2.2.2.2.1)) 23 (u2.2.2.2.2.2.2.2.2.2.1)) 25 (u2.2.2.2.2.2.2.2.2.2.2)), (va_up C.2.1 2 (u2.2.2.2.2.2.2.2.1)), C.2.2)) (R := R) u1 aT a8 a9 b1 b3 n5 n5d n1 n3b n3c b2 (fun t => (n6 t).2.1)
  rw [f1]
  generalize F_R_control_j4 R u1 = q at f2 f3 ⊢
  unfold F_Control_order_k2 F_R_control_k5
  have hd : F_Control_addDose ((va_up (va_up (va_up (va_up (va_up (va_up (va_up (va_up (va_up (va_up (va_up (va_up C.1 16 0) 17 0) 18 0) 4 (u2.1)) 5 (u2.2.1)) 6 (u2.2.2.1)) 7 (u2.2.2.2.1)) 24 (u2.2.2.2.2.2.2.2.2.1)) 23 (u2.2.2.2.2.2.2.2.2.2.1)) 25 (u2.2.2.2.2.2.2.2.2.2.2)) 14 (q.1)) 15 (q.2)), (va_up C.2.1 2 (u2.2.2.2.2.2.2.2.1)), C.2.2) = if q.1 = 1 then R.2.1 105 + F_R_control_j8 R u1 q (F_R_control_j6 R u1 q) else R.2.1 105 := by
    by_cases g : q.1 = 1
    · rw [if_pos g]
      exact ds_add (N := ((va_up (va_up (va_up (va_up (va_up (va_up (va_up (va_up (va_up (va_up (va_up (va_up C.1 16 0) 17 0) 18 0) 4 (u2.1)) 5 (u2.2.1)) 6 (u2.2.2.1)) 7 (u2.2.2.2.1)) 24 (u2.2.2.2.2.2.2.2.2.1)) 23 (u2.2.2.2.2.2.2.2.2.2.1)) 25 (u2.2.2.2.2.2.2.2.2.2.2)) 14 (q.1)) 15 (q.2)), (va_up C.2.1 2 (u2.2.2.2.2.2.2.2.1)), C.2.2)) (R := R) u1 q aT _ n2 n5 n5d b10 g
    · rw [if_neg g]
      unfold F_Control_addDose
      rw [if_neg (show ¬ ((va_up (va_up (va_up (va_up (va_up (va_up (va_up (va_up (va_up (va_up (va_up (va_up C.1 16 0) 17 0) 18 0) 4 (u2.1)) 5 (u2.2.1)) 6 (u2.2.2.1)) 7 (u2.2.2.2.1)) 24 (u2.2.2.2.2.2.2.2.2.1)) 23 (u2.2.2.2.2.2.2.2.2.2.1)) 25 (u2.2.2.2.2.2.2.2.2.2.2)) 14 (q.1)) 15 (q.2)), (va_up C.2.1 2 (u2.2.2.2.2.2.2.2.1)), C.2.2).1 14 = 1 from g)]
      exact b10
  generalize F_Control_addDose ((va_up (va_up (va_up (va_up (va_up (va_up (va_up (va_up (va_up (va_up (va_up (va_up C.1 16 0) 17 0) 18 0) 4 (u2.1)) 5 (u2.2.1)) 6 (u2.2.2.1)) 7 (u2.2.2.2.1)) 24 (u2.2.2.2.2.2.2.2.2.1)) 23 (u2.2.2.2.2.2.2.2.2.2.1)) 25 (u2.2.2.2.2.2.2.2.2.2.2)) 14 (q.1)) 15 (q.2)), (va_up C.2.1 2 (u2.2.2.2.2.2.2.2.1)), C.2.2) = d at hd ⊢
  unfold F_Control_order_k3
  have hfp := fp_all (N := ((va_up (va_up (va_up (va_up (va_up (va_up (va_up (va_up (va_up (va_up (va_up (va_up C.1 16 0) 17 0) 18 0) 4 (u2.1)) 5 (u2.2.1)) 6 (u2.2.2.1)) 7 (u2.2.2.2.1)) 24 (u2.2.2.2.2.2.2.2.2.1)) 23 (u2.2.2.2.2.2.2.2.2.2.1)) 25 (u2.2.2.2.2.2.2.2.2.2.2)) 14 (q.1)) 15 (q.2)), (va_up (va_up C.2.1 2 (u2.2.2.2.2.2.2.2.1)) 1 d), C.2.2)) (C := C) (R := R) (T := T) hA0 hB0 u1 q d f2 (fun g => (f3 (Or.inl g)).1.trans g) rfl n1 n1r rfl rfl rfl rfl rfl rfl rfl rfl rfl rfl hd
  generalize F_Control_followProgram ((va_up (va_up (va_up (va_up (va_up (va_up (va_up (va_up (va_up (va_up (va_up (va_up C.1 16 0) 17 0) 18 0) 4 (u2.1)) 5 (u2.2.1)) 6 (u2.2.2.1)) 7 (u2.2.2.2.1)) 24 (u2.2.2.2.2.2.2.2.2.1)) 23 (u2.2.2.2.2.2.2.2.2.2.1)) 25 (u2.2.2.2.2.2.2.2.2.2.2)) 14 (q.1)) 15 (q.2)), (va_up (va_up C.2.1 2 (u2.2.2.2.2.2.2.2.1)) 1 d), C.2.2) = a at hfp ⊢
  generalize F_R_control_j11 R u1 q = j at hfp ⊢
  obtain ⟨p1, p2, p3, p4, p5, p6, p7, p8, p9, p10, p11, p12, p13⟩ := hfp
  unfold F_Control_order_k4 F_R_control_k12
  have hrs := rs_all hT (N := ((va_up (va_up (va_up (va_up (va_up (va_up (va_up (va_up (va_up (va_up (va_up (va_up (va_up (va_up C.1 18 0) 20 (u2.2.2.2.2.1)) 21 (u2.2.2.2.2.2.1)) 22 (u2.2.2.2.2.2.2.1)) 24 (u2.2.2.2.2.2.2.2.2.1)) 23 (u2.2.2.2.2.2.2.2.2.2.1)) 25 (u2.2.2.2.2.2.2.2.2.2.2)) 26 (a.1)) 27 (a.2.1)) 14 (a.2.2.1)) 15 (a.2.2.2.1)) 28 (a.2.2.2.2.1)) 16 (a.2.2.2.2.2.1)) 17 (a.2.2.2.2.2.2)), (va_up (va_up C.2.1 2 (u2.2.2.2.2.2.2.2.1)) 1 d), C.2.2)) (C := C) (R := R) u1 q j hp b12 b12r b12k rfl p1 p2 p3 p4 n3a n4 p5 rfl p9 p10
  generalize F_Control_comeToRest ((va_up (va_up (va_up (va_up (va_up (va_up (va_up (va_up (va_up (va_up (va_up (va_up (va_up (va_up C.1 18 0) 20 (u2.2.2.2.2.1)) 21 (u2.2.2.2.2.2.1)) 22 (u2.2.2.2.2.2.2.1)) 24 (u2.2.2.2.2.2.2.2.2.1)) 23 (u2.2.2.2.2.2.2.2.2.2.1)) 25 (u2.2.2.2.2.2.2.2.2.2.2)) 26 (a.1)) 27 (a.2.1)) 14 (a.2.2.1)) 15 (a.2.2.2.1)) 28 (a.2.2.2.2.1)) 16 (a.2.2.2.2.2.1)) 17 (a.2.2.2.2.2.2)), (va_up (va_up C.2.1 2 (u2.2.2.2.2.2.2.2.1)) 1 d), C.2.2) = e at hrs ⊢
  generalize F_R_control_j17 R u1 q j = w at hrs ⊢
  obtain ⟨r1, r2, r3, r4, r5, r6, r7, r8⟩ := hrs
  unfold F_Control_order_k5 F_Control_order_k6 F_R_control_k18 F_R_control_k20 F_R_control_k22
  have x1 : w.1 = 0 ∨ w.1 = 1 ∨ w.1 = 2 ∨ w.1 = 3 := by
    rcases r2 with g | g
    · exact Or.inl g
    · rw [g]; exact p11
  have x2 : w.1 = 1 ∨ w.1 = 2 → w.1 = j.1 := by
    rintro g
    rcases r2 with g2 | g2
    · rw [g2] at g
      rcases g with g | g
      · exact absurd g (by decide)
      · exact absurd g (by decide)
    · exact g2
  have x3 : w.1 = 1 → a.1 = j.2.2.2.2.2.2.2 ∧ vRun R j.2.2.2.2.2.2.2 j.2.2.2.2.2.1 := fun g => p12 ((x2 (Or.inl g)).symm.trans g)
  have x4 : w.1 = 1 ∨ w.1 = 2 → u2.2.2.2.2.2.2.2.1 = u1.2.2.2.2.2.2.2.1 ∧ u2.2.2.2.2.2.2.2.2.1 = 0 ∧ vAny R u1.2.2.2.2.2.2.2.2.2.1 u1.2.2.2.2.2.2.2.2.2.2.1 u1.2.2.2.2.2.2.2.2.2.2.2 := by
    intro g
    have g1 := x2 g
    rw [g1] at g
    obtain ⟨g3, g4, g5⟩ := f3 (p13 g)
    obtain ⟨m1, m2, m3⟩ := n6 g4
    exact ⟨m1, m2.mpr g5, m3 g5⟩
  exact ⟨r1, x1, p2, ⟨n3a, n3b, n3c⟩, ⟨n5, n5d⟩, ⟨n1, n1r⟩, n4, p6, ⟨p7, p8⟩, p5, ⟨r7.1, r7.2, r8⟩, x3, x4, fun h => absurd h hp, ⟨r3, r5⟩, ⟨r4, r6⟩⟩
set_option maxHeartbeats 4000000 in
set_option maxRecDepth 100000 in
theorem ct_all {T : Nat} (hT : T < 2000000000) {C R : XM} (hA : vA C R) (hB : vB T C R) : vCT T R (F_Control_order C) (F_R_tick_b_j2 R) := by
  by_cases hp : R.1 109 = 0
  · obtain ⟨a0, a0r, a1, a1r, a2, a2r, a3, a3r, a8, a9, a12, a13, a19, aT, aP⟩ := hA
    obtain ⟨b1, b2, b3, b4, b5, b6, b7, b8, b9, b10, b11, ⟨b12, b12r, b12k⟩, b13, b14, b15⟩ := hB
    unfold F_Control_order F_R_tick_b_j2
    rw [if_pos (by rw [a12]; exact hp), if_pos hp]
    obtain ⟨z1, z2⟩ := b15 hp
    have d0 : 0 ≤ (0 : Int32).toInt ∧ (0 : Int32).toInt ≤ 100 := by decide
    have d9 : 0 ≤ (0 : Int32).toInt ∧ (0 : Int32).toInt ≤ 9 := by decide
    have d1 : 0 ≤ (R.1 125).toInt ∧ (R.1 125).toInt ≤ T + 1 := by omega
    exact ⟨b1, b2, b3, b4, b5, b6, b7, b8, b9, b10, ⟨b12, d1, b12k⟩, b13, b14, fun _ => ⟨z1, z2⟩, ⟨z1.symm, d0⟩, ⟨z2.symm, d9⟩⟩
  · have h := ct_on hT hA hB hp
    unfold F_R_tick_b_j2
    rw [if_neg hp]
    unfold F_R_tick_b_k1
    generalize F_R_control R = c at h
    exact h
/-! the machine's move -/
theorem mv_in {C R K : XM} (a0 : C.1 0 = R.1 101) (a0r : -1 ≤ (R.1 101).toInt ∧ (R.1 101).toInt ≤ 3) (aT : vRT C R) (h1 : K.1 101 = R.1 101) (h2 : K.2.2.1 = R.2.2.1) : F_R_move_j1 K = F_Rotors_inertiaIn C ∧ (1 ≤ (F_Rotors_inertiaIn C).toInt ∧ (F_Rotors_inertiaIn C).toInt ≤ 1000) := by
  unfold F_R_move_j1 F_Rotors_inertiaIn F_Rotors_inertiaIn_k1
  rw [h1, h2, a0, ex_rd C (x := R.1 101) (by
    by_cases q : (R.1 101).toInt = -1
    · exact Or.inl (n_eq32 (by rw [q, im1]))
    · exact Or.inr (by omega))]
  by_cases q : R.1 101 < 0
  · have q2 : ¬ 0 ≤ R.1 101 := by
      rw [Int32.le_iff_toInt_le, i0]
      rw [Int32.lt_iff_toInt_lt, i0] at q
      omega
    rw [if_pos q, if_neg q2, if_pos rfl]
    decide
  · have q2 : 0 ≤ R.1 101 := by
      rw [Int32.le_iff_toInt_le, i0]
      rw [Int32.lt_iff_toInt_lt, i0] at q
      omega
    rw [if_neg q, if_pos q2, if_neg (show ¬ (1 : Int32) = 0 by decide)]
    rw [Int32.le_iff_toInt_le, i0] at q2
    have hk : (R.1 101).toNatClampNeg < 4 := clamp_lt q2 (by omega)
    rcases aT.1 _ hk with ⟨k1, k2, k3⟩ | ⟨k1, k2, k3, k4, k5, k6, k7, k8, k9⟩
    · rw [if_pos k1, k3]
      decide
    · rw [if_neg k1, k6]
      exact ⟨rfl, k9⟩
theorem mv_all {C K : XM} {i d b : Int32} (hi : 1 ≤ i.toInt ∧ i.toInt ≤ 1000) (hd : 0 ≤ d.toInt ∧ d.toInt ≤ 100) (hb : 0 ≤ b.toInt ∧ b.toInt ≤ 9) (h0 : C.2.1 0 = K.2.1 100) (hs : 0 ≤ (K.2.1 100).toInt ∧ (K.2.1 100).toInt ≤ 200000000) (k103 : K.1 103 = d) (k104 : K.1 104 = b) (hj : F_R_move_j1 K = i) : F_Model_move C d b i = F_R_move K ∧ (0 ≤ (F_R_move K).toInt ∧ (F_R_move K).toInt ≤ 200000000) := by
  have hw : (if 1 < i then i else 1) = i := by
    by_cases q : 1 < i
    · rw [if_pos q]
    · rw [if_neg q]
      rw [Int32.lt_iff_toInt_lt, show (1 : Int32).toInt = 1 by decide] at q
      exact n_eq32 (by rw [show (1 : Int32).toInt = 1 by decide]; omega)
  have e1 : (1000 * d.toInt64).toInt = 1000 * d.toInt := by
    rw [n64_mul (by rw [n_w, show (1000 : Int64).toInt = 1000 by decide]; omega) (by rw [n_w, show (1000 : Int64).toInt = 1000 by decide]; omega), n_w, show (1000 : Int64).toInt = 1000 by decide]
  have e2 : (10000 * b.toInt64).toInt = 10000 * b.toInt := by
    rw [n64_mul (by rw [n_w, show (10000 : Int64).toInt = 10000 by decide]; omega) (by rw [n_w, show (10000 : Int64).toInt = 10000 by decide]; omega), n_w, show (10000 : Int64).toInt = 10000 by decide]
  have f1 : (1000 * d.toInt64 / i.toInt64).toInt = 1000 * d.toInt / i.toInt := by rw [n64_div (by rw [e1]; omega) (by rw [n_w]; omega), e1, n_w]
  have f2 : (10000 * b.toInt64 / i.toInt64).toInt = 10000 * b.toInt / i.toInt := by rw [n64_div (by rw [e2]; omega) (by rw [n_w]; omega), e2, n_w]
  have g1 : 0 ≤ 1000 * d.toInt / i.toInt ∧ 1000 * d.toInt / i.toInt ≤ 100000 := by
    have := Int.ediv_le_self (b := i.toInt) (a := 1000 * d.toInt) (by omega)
    exact ⟨Int.ediv_nonneg (by omega) (by omega), by omega⟩
  have g2 : 0 ≤ 10000 * b.toInt / i.toInt ∧ 10000 * b.toInt / i.toInt ≤ 90000 := by
    have := Int.ediv_le_self (b := i.toInt) (a := 10000 * b.toInt) (by omega)
    exact ⟨Int.ediv_nonneg (by omega) (by omega), by omega⟩
  generalize 1000 * d.toInt / i.toInt = A at *
  generalize 10000 * b.toInt / i.toInt = B at *
  have s1 : (K.2.1 100 + 1000 * d.toInt64 / i.toInt64).toInt = (K.2.1 100).toInt + A := by rw [n64_add (by rw [f1]; omega) (by rw [f1]; omega), f1]
  have s2 : ((K.2.1 100 + 1000 * d.toInt64 / i.toInt64) / 2000).toInt = ((K.2.1 100).toInt + A) / 2000 := by rw [n64_div (by rw [s1]; omega) (by decide), s1, show (2000 : Int64).toInt = 2000 by decide]
  have s3 : ((K.2.1 100 + 1000 * d.toInt64 / i.toInt64) / 2000 + 200).toInt = ((K.2.1 100).toInt + A) / 2000 + 200 := by rw [n64_add (by rw [s2, show (200 : Int64).toInt = 200 by decide]; omega) (by rw [s2, show (200 : Int64).toInt = 200 by decide]; omega), s2, show (200 : Int64).toInt = 200 by decide]
  have s4 : ((K.2.1 100 + 1000 * d.toInt64 / i.toInt64) - ((K.2.1 100 + 1000 * d.toInt64 / i.toInt64) / 2000 + 200)).toInt = (K.2.1 100).toInt + A - (((K.2.1 100).toInt + A) / 2000 + 200) := by rw [n64_sub (by rw [s1, s3]; omega) (by rw [s1, s3]; omega), s1, s3]
  have s5 : ((K.2.1 100 + 1000 * d.toInt64 / i.toInt64) - ((K.2.1 100 + 1000 * d.toInt64 / i.toInt64) / 2000 + 200) - 10000 * b.toInt64 / i.toInt64).toInt = (K.2.1 100).toInt + A - (((K.2.1 100).toInt + A) / 2000 + 200) - B := by rw [n64_sub (by rw [s4, f2]; omega) (by rw [s4, f2]; omega), s4, f2]
  have s6 : ((K.2.1 100 + 1000 * d.toInt64 / i.toInt64) / 2000 + 200 + 10000 * b.toInt64 / i.toInt64).toInt = ((K.2.1 100).toInt + A) / 2000 + 200 + B := by rw [n64_add (by rw [s3, f2]; omega) (by rw [s3, f2]; omega), s3, f2]
  have s7 : ((K.2.1 100 + 1000 * d.toInt64 / i.toInt64) - ((K.2.1 100 + 1000 * d.toInt64 / i.toInt64) / 2000 + 200 + 10000 * b.toInt64 / i.toInt64)).toInt = (K.2.1 100).toInt + A - (((K.2.1 100).toInt + A) / 2000 + 200) - B := by rw [n64_sub (by rw [s1, s6]; omega) (by rw [s1, s6]; omega), s1, s6]; omega
  have s8 : (K.2.1 100 + 1000 * d.toInt64 / i.toInt64) - ((K.2.1 100 + 1000 * d.toInt64 / i.toInt64) / 2000 + 200) - 10000 * b.toInt64 / i.toInt64 = (K.2.1 100 + 1000 * d.toInt64 / i.toInt64) - ((K.2.1 100 + 1000 * d.toInt64 / i.toInt64) / 2000 + 200 + 10000 * b.toInt64 / i.toInt64) := n_eq (by rw [s5, s7])
  unfold F_Model_move F_Model_move_k1 F_Model_move_k2 F_R_move F_R_move_k2 F_R_move_k4 F_R_move_j3
  rw [hw, hj, k103, k104, h0, s8]
  generalize (K.2.1 100 + 1000 * d.toInt64 / i.toInt64) - ((K.2.1 100 + 1000 * d.toInt64 / i.toInt64) / 2000 + 200 + 10000 * b.toInt64 / i.toInt64) = X at s7
  simp only [lg_cmp_ge, Int64.le_iff_toInt_le, Int64.lt_iff_toInt_lt, show (0 : Int64).toInt = 0 by decide]
  by_cases q : X.toInt < 0
  · rw [if_pos q, if_neg (by omega)]
    decide
  · rw [if_neg q, if_pos (by omega)]
    exact ⟨rfl, by omega⟩
/-! one tick -/
set_option maxHeartbeats 4000000 in
set_option maxRecDepth 100000 in
theorem tk_step {T : Nat} (hT : T < 2000000000) {C R : XM} (hA : vA C R) (hB : vB T C R) : vA (xst_U_tick C) (xst_R_tick R) ∧ vB (T + 1) (xst_U_tick C) (xst_R_tick R) := by
  have hc := ct_all hT hA hB
  have hA0 := hA
  obtain ⟨a0, a0r, a1, a1r, a2, a2r, a3, a3r, a8, a9, a12, a13, a19, aT, aP⟩ := hA
  obtain ⟨b1, b2, b3, b4, b5, b6, b7, b8, b9, b10, ⟨b11, b11r⟩, b12, b13, b14, b15⟩ := hB
  unfold xst_U_tick S_U_tick F_U_tick_b_k2 F_U_tick_b_k3 xst_R_tick S_R_tick F_R_tick_b_k3
  generalize F_Control_order C = o at hc ⊢
  generalize F_R_tick_b_j2 R = c at hc ⊢
  obtain ⟨c1, c2, c3, c4, c5, c6, c7, c8, c9, c10, ⟨c11, c11r, c11k⟩, c12, c13, c14, ⟨c15, c15r⟩, ⟨c16, c16r⟩⟩ := hc
  have hi := mv_in (C := C) (R := R) (K := ((va_up (va_up (va_up (va_up (va_up (va_up (va_up (va_up (va_up (va_up (va_up (va_up (va_up (va_up (va_up (va_up R.1 118 (c.2.2.2.1)) 119 (c.2.2.2.2.1)) 120 (c.2.2.2.2.2.1)) 117 (c.2.2.2.2.2.2.2.2.1)) 114 (c.2.2.2.2.2.2.2.2.2.1)) 115 (c.2.2.2.2.2.2.2.2.2.2.1)) 116 (c.2.2.2.2.2.2.2.2.2.2.2.1)) 110 (c.2.2.2.2.2.2.2.2.2.2.2.2.1)) 111 (c.2.2.2.2.2.2.2.2.2.2.2.2.2.1)) 103 (c.2.2.2.2.2.2.2.2.2.2.2.2.2.2.1)) 104 (c.2.2.2.2.2.2.2.2.2.2.2.2.2.2.2.1)) 113 (c.2.2.2.2.2.2.2.2.2.2.2.2.2.2.2.2.2.1)) 112 (c.2.2.2.2.2.2.2.2.2.2.2.2.2.2.2.2.2.2.2.1)) 125 (c.2.2.2.2.2.2.2.2.2.2.2.2.2.2.2.2.2.2.2.2.2.2.2.1)) 105 (c.2.2.2.2.2.2.2.2.2.2.2.2.2.2.2.2.2.2.2.2.2.2.2.2.1)) 106 (c.2.2.2.2.2.2.2.2.2.2.2.2.2.2.2.2.2.2.2.2.2.2.2.2.2)), (va_up (va_up (va_up (va_up (va_up (va_up (va_up R.2.1 101 (c.1)) 102 (c.2.1)) 103 (c.2.2.1)) 107 (c.2.2.2.2.2.2.1)) 106 (c.2.2.2.2.2.2.2.1)) 105 (c.2.2.2.2.2.2.2.2.2.2.2.2.2.2.2.2.1)) 104 (c.2.2.2.2.2.2.2.2.2.2.2.2.2.2.2.2.2.2.1)), R.2.2)) a0 a0r aT rfl rfl
  have hm := mv_all (C := C) (K := ((va_up (va_up (va_up (va_up (va_up (va_up (va_up (va_up (va_up (va_up (va_up (va_up (va_up (va_up (va_up (va_up R.1 118 (c.2.2.2.1)) 119 (c.2.2.2.2.1)) 120 (c.2.2.2.2.2.1)) 117 (c.2.2.2.2.2.2.2.2.1)) 114 (c.2.2.2.2.2.2.2.2.2.1)) 115 (c.2.2.2.2.2.2.2.2.2.2.1)) 116 (c.2.2.2.2.2.2.2.2.2.2.2.1)) 110 (c.2.2.2.2.2.2.2.2.2.2.2.2.1)) 111 (c.2.2.2.2.2.2.2.2.2.2.2.2.2.1)) 103 (c.2.2.2.2.2.2.2.2.2.2.2.2.2.2.1)) 104 (c.2.2.2.2.2.2.2.2.2.2.2.2.2.2.2.1)) 113 (c.2.2.2.2.2.2.2.2.2.2.2.2.2.2.2.2.2.1)) 112 (c.2.2.2.2.2.2.2.2.2.2.2.2.2.2.2.2.2.2.2.1)) 125 (c.2.2.2.2.2.2.2.2.2.2.2.2.2.2.2.2.2.2.2.2.2.2.2.1)) 105 (c.2.2.2.2.2.2.2.2.2.2.2.2.2.2.2.2.2.2.2.2.2.2.2.2.1)) 106 (c.2.2.2.2.2.2.2.2.2.2.2.2.2.2.2.2.2.2.2.2.2.2.2.2.2)), (va_up (va_up (va_up (va_up (va_up (va_up (va_up R.2.1 101 (c.1)) 102 (c.2.1)) 103 (c.2.2.1)) 107 (c.2.2.2.2.2.2.1)) 106 (c.2.2.2.2.2.2.2.1)) 105 (c.2.2.2.2.2.2.2.2.2.2.2.2.2.2.2.2.1)) 104 (c.2.2.2.2.2.2.2.2.2.2.2.2.2.2.2.2.2.2.1)), R.2.2)) (i := F_Rotors_inertiaIn C) (d := o.1) (b := o.2.1) hi.2 c15r c16r b11 b11r c15.symm c16.symm hi.1
  generalize F_R_move ((va_up (va_up (va_up (va_up (va_up (va_up (va_up (va_up (va_up (va_up (va_up (va_up (va_up (va_up (va_up (va_up R.1 118 (c.2.2.2.1)) 119 (c.2.2.2.2.1)) 120 (c.2.2.2.2.2.1)) 117 (c.2.2.2.2.2.2.2.2.1)) 114 (c.2.2.2.2.2.2.2.2.2.1)) 115 (c.2.2.2.2.2.2.2.2.2.2.1)) 116 (c.2.2.2.2.2.2.2.2.2.2.2.1)) 110 (c.2.2.2.2.2.2.2.2.2.2.2.2.1)) 111 (c.2.2.2.2.2.2.2.2.2.2.2.2.2.1)) 103 (c.2.2.2.2.2.2.2.2.2.2.2.2.2.2.1)) 104 (c.2.2.2.2.2.2.2.2.2.2.2.2.2.2.2.1)) 113 (c.2.2.2.2.2.2.2.2.2.2.2.2.2.2.2.2.2.1)) 112 (c.2.2.2.2.2.2.2.2.2.2.2.2.2.2.2.2.2.2.2.1)) 125 (c.2.2.2.2.2.2.2.2.2.2.2.2.2.2.2.2.2.2.2.2.2.2.2.1)) 105 (c.2.2.2.2.2.2.2.2.2.2.2.2.2.2.2.2.2.2.2.2.2.2.2.2.1)) 106 (c.2.2.2.2.2.2.2.2.2.2.2.2.2.2.2.2.2.2.2.2.2.2.2.2.2)), (va_up (va_up (va_up (va_up (va_up (va_up (va_up R.2.1 101 (c.1)) 102 (c.2.1)) 103 (c.2.2.1)) 107 (c.2.2.2.2.2.2.1)) 106 (c.2.2.2.2.2.2.2.1)) 105 (c.2.2.2.2.2.2.2.2.2.2.2.2.2.2.2.2.1)) 104 (c.2.2.2.2.2.2.2.2.2.2.2.2.2.2.2.2.2.2.1)), R.2.2) = v at hm ⊢
  obtain ⟨m1, m2⟩ := hm
  rw [m1]
  unfold F_U_tick_b_k4 F_R_tick_b_k4
  refine ⟨hA0, c1, c2, c3, c4, c5, c6, c7, c8, c9, c10, ⟨rfl, m2⟩, ⟨c11, ⟨c11r.1, ?_⟩, c11k⟩, c12, c13, c14⟩
  have h := c11r.2
  show (c.2.2.2.2.2.2.2.2.2.2.2.2.2.2.2.2.2.2.2.2.2.2.2.1).toInt ≤ ((T + 1 : Nat) : Int)
  omega
theorem tk_steps {C R : XM} {T : Nat} (hA : vA C R) (hB : vB T C R) : ∀ n : Nat, T + n < 2000000000 → vA (xit_U_tick C n) (xit_R_tick R n) ∧ vB (T + n) (xit_U_tick C n) (xit_R_tick R n)
  | 0, _ => ⟨hA, hB⟩
  | n + 1, h => by
    obtain ⟨h1, h2⟩ := tk_steps hA hB n (by omega)
    exact tk_step (T := T + n) (by omega) h1 h2
theorem tk_thrown (R : XM) : ∀ n : Nat, (xit_R_tick R n).1 100 = R.1 100
  | 0 => rfl
  | n + 1 => tk_thrown R n


