/-! the control's first act of a tick: sensors, rows in a row, the pattern -/
def SN (R : XM) (u2 : Int32 × Int32 × Int32 × Int32 × Int32 × Int32 × Int32 × Int64 × Int32 × Int32 × Int32) (u1 : Int64 × Int64 × Int64 × Int32 × Int32 × Int32 × Int64 × Int64 × Int32 × Int32 × Int32 × Int32) : Prop := (u1.2.2.1 = u2.2.2.1.toInt64 ∧ (0 ≤ u2.2.2.1.toInt ∧ u2.2.2.1.toInt ≤ 100000)) ∧ ((if 0 ≤ lg_cmp u1.1 u1.2.1 then u1.2.1 else u1.1) = u2.2.2.2.1.toInt64) ∧ (u2.2.2.2.2.1 = u1.2.2.2.1 ∧ u2.2.2.2.2.2.1 = u1.2.2.2.2.1 ∧ u2.2.2.2.2.2.2.1 = u1.2.2.2.2.2.1) ∧ u1.2.2.2.2.2.2.1 = u2.2.2.2.2.2.2.2.2.2.2.toInt64 ∧ (u2.2.2.2.2.2.2.2.2.2.1 = u1.2.2.2.2.2.2.2.2.2.2.2 ∧ vRd R u1.2.2.2.2.2.2.2.2.2.2.2) ∧ ((R.1 110 = 1 ∨ R.1 110 = 2) → u2.2.2.2.2.2.2.2.1 = u1.2.2.2.2.2.2.2.1 ∧ (u2.2.2.2.2.2.2.2.2.1 = 0 ↔ u1.2.2.2.2.2.2.2.2.1 = 0) ∧ (u1.2.2.2.2.2.2.2.2.1 = 0 → vAny R u1.2.2.2.2.2.2.2.2.2.1 u1.2.2.2.2.2.2.2.2.2.2.1 u1.2.2.2.2.2.2.2.2.2.2.2))
theorem sn_great (R : XM) (a b c d e : Int64) (r1 r2 : Int32) (h : Int64) (r3 : Int32) (C : XM) (u : Int32) (h14 : C.1 14 = R.1 110) (h25 : R.2.1 107 = (C.1 25).toInt64) : F_R_sense_j23 R a b c d e u.toInt64 r1 r2 h r3 = (if C.1 14 = 0 then C.1 25 else if C.1 25 < u then u else C.1 25).toInt64 := by
  unfold F_R_sense_j23 F_R_sense_k22 F_R_sense_j21
  rw [h14, h25]
  by_cases q : R.1 110 = 0
  · rw [if_pos q, if_pos q]
  · rw [if_neg q, if_neg q]
    exact sn_max2 (C.1 25) u
set_option maxHeartbeats 4000000 in
set_option maxRecDepth 100000 in
theorem sn_rdst (R : XM) (t c j5 x y : Int64) (u : Int32) (r s : Int32) (d : Int64) (dd : Int32) (g : Int64) (C : XM) (S : Int32 × Int32 × Int32 × Int32) (hS : S.2.2.1 = u) (W : Int32 × Int32 × Int32) (a0 : C.1 0 = R.1 101) (a0r : -1 ≤ (R.1 101).toInt ∧ (R.1 101).toInt ≤ 3) (aT : vRT C R) (b1 : C.1 14 = R.1 110) (b5 : C.1 23 = R.1 116) (b5d : vRd R (R.1 116)) (b14 : (R.1 110 = 1 ∨ R.1 110 = 2) → C.2.1 2 = R.2.1 106 ∧ C.1 24 = 0 ∧ vAny R (R.1 114) (R.1 115) (R.1 116)) :
    ∃ (T1 : Int64) (W1 A1 F1 X1 : Int32) (T2 : Int64) (W2 : Int32), F_R_sense_k24 R t c j5 x y u.toInt64 r s d dd g = (x, y, u.toInt64, r, s, dd, g, T1, W1, A1, F1, X1) ∧ F_Control_readSensors_j5 C S W (F_Control_turning C) = (T2, W2, X1) ∧ vRd R X1 ∧ ((R.1 110 = 1 ∨ R.1 110 = 2) → T2 = T1 ∧ (W2 = 0 ↔ W1 = 0) ∧ (W1 = 0 → vAny R A1 F1 X1)) := by
  unfold F_R_sense_k24 F_Control_readSensors_j5
  rw [hS]
  by_cases tt : R.1 110 = 1 ∨ R.1 110 = 2
  · have hz : F_Control_turning C = 1 := by
      unfold F_Control_turning
      rw [b1]
      rcases tt with q | q
      · rw [if_pos q]
      · rw [if_neg (by rw [q]; decide), if_pos q]
    obtain ⟨c1, c2, c3⟩ := b14 tt
    rw [hz, if_neg (show ¬ (1 : Int32) = 0 by decide), c1]
    by_cases rr : 0 ≤ lg_cmp (R.2.1 106 + u.toInt64) 300000
    · have rr2 : ¬ lg_cmp (R.2.1 106 + u.toInt64) 300000 < 0 := by
        rw [lg_cmp_lt, Int64.lt_iff_toInt_lt]
        rw [lg_cmp_ge, Int64.le_iff_toInt_le] at rr
        omega
      rw [if_pos rr, if_neg rr2]
      have key : ∀ (N : XM) (p : Int32), N.2.2.1 = R.2.2.1 → N.1 114 = R.1 114 → N.1 115 = R.1 115 → N.1 116 = R.1 116 → F_Rotors_patternIn C = p → ∃ (W1 A1 F1 X1 : Int32) (T2 : Int64) (W2 : Int32), F_R_read N p = (W1, A1, F1, X1) ∧ F_Run_readPattern (C.1, (va_up C.2.1 2 (R.2.1 106 + u.toInt64)), C.2.2) = (T2, W2, X1) ∧ T2 = 0 ∧ vRd R X1 ∧ (W2 = 0 ↔ W1 = 0) ∧ (W1 = 0 → vAny R A1 F1 X1) := by
        intro N p n1 n2 n3 n4 hp
        have q := rd_all (C := (C.1, (va_up C.2.1 2 (R.2.1 106 + u.toInt64)), C.2.2)) (R := R) (N := N) aT (by rw [n1]) (by rw [n1]) n2 n3 n4 b5 b5d c2 c3 p hp _ rfl _ rfl
        generalize F_R_read N p = P at q
        generalize F_Run_readPattern _ = Q at q
        obtain ⟨P1, P2, P3, P4⟩ := P
        obtain ⟨Q1, Q2, Q3⟩ := Q
        obtain ⟨q1, q2, q3, q4, q5⟩ := q
        have q2' : Q3 = P4 := q2
        subst q2'
        exact ⟨P1, P2, P3, Q3, Q1, Q2, rfl, rfl, q1, q3, q4, q5⟩
      have hp := pt_in (C := C) a0 a0r aT
      rcases tt with q | q
      · rw [if_pos q]
        unfold F_R_sense_k26
        obtain ⟨W1, A1, F1, X1, T2, W2, k1, k2, k3, k4, k5, k6⟩ := key ((va_up (va_up (va_up (va_up R.1 118 r) 119 s) 120 dd) 117 0), (va_up (va_up (va_up (va_up (va_up R.2.1 101 x) 102 y) 103 u.toInt64) 107 g) 106 0), R.2.2) (F_R_sense_j25 R t c j5 x y u.toInt64 r s d dd g) rfl rfl rfl rfl hp
        rw [k1]
        rw [k2]
        exact ⟨0, W1, A1, F1, X1, T2, W2, rfl, rfl, k4, fun _ => ⟨k3, k5, k6⟩⟩
      · rw [if_neg (by rw [q]; decide), if_pos q]
        unfold F_R_sense_k29
        obtain ⟨W1, A1, F1, X1, T2, W2, k1, k2, k3, k4, k5, k6⟩ := key ((va_up (va_up (va_up (va_up R.1 118 r) 119 s) 120 dd) 117 0), (va_up (va_up (va_up (va_up (va_up R.2.1 101 x) 102 y) 103 u.toInt64) 107 g) 106 0), R.2.2) (F_R_sense_j28 R t c j5 x y u.toInt64 r s d dd g) rfl rfl rfl rfl hp
        rw [k1]
        rw [k2]
        exact ⟨0, W1, A1, F1, X1, T2, W2, rfl, rfl, k4, fun _ => ⟨k3, k5, k6⟩⟩
    · have rr2 : lg_cmp (R.2.1 106 + u.toInt64) 300000 < 0 := by
        rw [lg_cmp_lt, Int64.lt_iff_toInt_lt]
        rw [lg_cmp_ge, Int64.le_iff_toInt_le] at rr
        omega
      rw [if_neg rr, if_pos rr2, b5, c2]
      exact ⟨_, _, _, _, _, _, _, rfl, rfl, b5d, fun _ => ⟨rfl, ⟨fun _ => rfl, fun _ => rfl⟩, fun _ => c3⟩⟩
  · have hz : F_Control_turning C = 0 := by
      unfold F_Control_turning
      rw [b1, if_neg (fun q => tt (Or.inl q)), if_neg (fun q => tt (Or.inr q))]
    rw [hz, if_pos rfl, if_neg (fun q => tt (Or.inl q)), if_neg (fun q => tt (Or.inr q)), b5]
    by_cases rr : 0 ≤ lg_cmp (R.2.1 106 + u.toInt64) 300000
    · rw [if_pos rr]
      exact ⟨_, _, _, _, _, _, _, rfl, rfl, b5d, fun q => absurd q tt⟩
    · rw [if_neg rr]
      exact ⟨_, _, _, _, _, _, _, rfl, rfl, b5d, fun q => absurd q tt⟩
theorem sn_k6 (C : XM) (S : Int32 × Int32 × Int32 × Int32) (W : Int32 × Int32 × Int32) (z : Int32) (J : Int64 × Int32 × Int32) : F_Control_readSensors_k6 C S W z J = (S.1, S.2.1, S.2.2.1, S.2.2.2, W.1, W.2.1, W.2.2, J.1, J.2.1, J.2.2, if C.1 14 = 0 then C.1 25 else if C.1 25 < S.2.2.1 then S.2.2.1 else C.1 25) := by
  unfold F_Control_readSensors_k6 F_Control_readSensors_k7
  by_cases q : C.1 14 = 0
  · rw [if_pos q, if_pos q]
  · rw [if_neg q, if_neg q]
theorem sn_watch (R N : XM) (t c j5 : Int64) (x y u v : Int32) (x2 : 0 ≤ x.toInt ∧ x.toInt ≤ 100000) (y2 : 0 ≤ y.toInt ∧ y.toInt ≤ 100000) (hu : u = if x < y then y else x) (hv : v = if y < x then y else x) (n6 : N.1 6 = u) (n7 : N.1 7 = v) (n19 : N.1 19 = R.1 123) (n20 : N.1 20 = R.1 118) (n21 : N.1 21 = R.1 119) (n22 : N.1 22 = R.1 120) (ur : 0 ≤ u.toInt ∧ u.toInt ≤ 100000) : ∃ (r s : Int32) (d : Int64) (dd : Int32), r = F_R_sense_j13 R t c j5 x.toInt64 y.toInt64 u.toInt64 ∧ s = F_R_sense_j15 R t c j5 x.toInt64 y.toInt64 u.toInt64 r ∧ d = F_R_sense_j17 R t c j5 x.toInt64 y.toInt64 u.toInt64 r s ∧ dd = F_R_sense_j19 R t c j5 x.toInt64 y.toInt64 u.toInt64 r s d ∧ F_Watch_count N = (r, s, dd) := by
  refine ⟨_, _, _, _, rfl, rfl, rfl, rfl, ?_⟩
  have r1 := sn_rest R t c j5 x.toInt64 y.toInt64 u N n6 n20
  have r2 := sn_shake R t c j5 x.toInt64 y.toInt64 (F_Watch_count_j1 N) (F_R_sense_j13 R t c j5 x.toInt64 y.toInt64 u.toInt64) u N ur n6 n19 n21
  have r3 := sn_diff R t c j5 (F_Watch_count_j1 N) (F_Watch_count_j3 N (F_Watch_count_j1 N)) (F_R_sense_j13 R t c j5 x.toInt64 y.toInt64 u.toInt64) (F_R_sense_j15 R t c j5 x.toInt64 y.toInt64 u.toInt64 (F_R_sense_j13 R t c j5 x.toInt64 y.toInt64 u.toInt64)) x y N x2 y2 (n6.trans hu) (n7.trans hv) n22
  rw [← hu] at r3
  unfold F_Watch_count F_Watch_count_k2 F_Watch_count_k4 F_Watch_count_k6
  rw [r3, r2, r1]
theorem sn_fin (R C : XM) (t c j5 : Int64) (x y u v : Int32) (x2 : 0 ≤ x.toInt ∧ x.toInt ≤ 100000) (y2 : 0 ≤ y.toInt ∧ y.toInt ≤ 100000) (hu : u = if x < y then y else x) (hv : v = if y < x then y else x) (ur : 0 ≤ u.toInt ∧ u.toInt ≤ 100000) (a0 : C.1 0 = R.1 101) (a0r : -1 ≤ (R.1 101).toInt ∧ (R.1 101).toInt ≤ 3) (a19 : C.1 19 = R.1 123) (aT : vRT C R) (b1 : C.1 14 = R.1 110) (b4a : C.1 20 = R.1 118) (b4b : C.1 21 = R.1 119) (b4c : C.1 22 = R.1 120) (b5 : C.1 23 = R.1 116) (b5d : vRd R (R.1 116)) (b7 : R.2.1 107 = (C.1 25).toInt64) (b14 : (R.1 110 = 1 ∨ R.1 110 = 2) → C.2.1 2 = R.2.1 106 ∧ C.1 24 = 0 ∧ vAny R (R.1 114) (R.1 115) (R.1 116)) : SN R (F_Control_readSensors_k1 C (x, y, u, v)) (F_R_sense_k12 R t c j5 x.toInt64 y.toInt64 u.toInt64) := by
  obtain ⟨r, s, d, dd, e1, e2, e3, e4, hW⟩ := sn_watch R ((va_up (va_up (va_up (va_up C.1 4 x) 5 y) 6 u) 7 v), C.2) t c j5 x y u v x2 y2 hu hv rfl rfl a19 b4a b4b b4c ur
  have v1 := sn_min x y
  rw [← hv] at v1
  have hg := sn_great R t c j5 x.toInt64 y.toInt64 r s d dd C u b1 b7
  obtain ⟨T1, W1, A1, F1, X1, T2, W2, k1, k2, k3, k4⟩ := sn_rdst R t c j5 x.toInt64 y.toInt64 u r s d dd (F_R_sense_j23 R t c j5 x.toInt64 y.toInt64 u.toInt64 r s d dd) C (x, y, u, v) rfl (r, s, dd) a0 a0r aT b1 b5 b5d b14
  have hC : F_Control_readSensors_k1 C (x, y, u, v) = (x, y, u, v, r, s, dd, T2, W2, X1, if C.1 14 = 0 then C.1 25 else if C.1 25 < u then u else C.1 25) := by
    unfold F_Control_readSensors_k1 F_Control_readSensors_k2 F_Control_readSensors_k3
    dsimp only
    rw [hW, k2, sn_k6]
  have hR : F_R_sense_k12 R t c j5 x.toInt64 y.toInt64 u.toInt64 = (x.toInt64, y.toInt64, u.toInt64, r, s, dd, F_R_sense_j23 R t c j5 x.toInt64 y.toInt64 u.toInt64 r s d dd, T1, W1, A1, F1, X1) := by
    unfold F_R_sense_k12 F_R_sense_k14 F_R_sense_k16 F_R_sense_k18 F_R_sense_k20
    rw [← e1, ← e2, ← e3, ← e4, k1]
  rw [hC, hR]
  exact ⟨⟨rfl, ur⟩, v1, ⟨rfl, rfl, rfl⟩, hg, ⟨rfl, k3⟩, k4⟩
theorem sn_all {T : Nat} {C R : XM} (hA : vA C R) (hB : vB T C R) : SN R (F_Control_readSensors C) (F_R_sense R) := by
  obtain ⟨a0, a0r, a1, a1r, a2, a2r, a3, a3r, a8, a9, a12, a13, a19, aT, aP⟩ := hA
  obtain ⟨b1, b2, b3, ⟨b4a, b4b, b4c⟩, ⟨b5, b5d⟩, ⟨b6, b6r⟩, b7, b8, ⟨b9, b9r⟩, b10, ⟨b11, b11r⟩, ⟨b12, b12r, b12k⟩, b13, b14, b15⟩ := hB
  obtain ⟨t1, t2⟩ := sn_time a2 a2r.1 b11 b11r.1
  obtain ⟨c1, c2⟩ := sn_count (F_R_sense_j1 R) (F_R_sense_j1 R) a3 a3r b11 b11r
  obtain ⟨x1, x2⟩ := sn_tacho C R (F_R_sense_j1 R) (F_R_sense_j3 R (F_R_sense_j1 R)) t2
  obtain ⟨y1, y2⟩ := sn_comm R (F_R_sense_j1 R) (F_R_sense_j3 R (F_R_sense_j1 R)) (F_R_sense_j5 R (F_R_sense_j1 R) (F_R_sense_j3 R (F_R_sense_j1 R))) (F_Sensors_sense_j8 C (F_R_sense_j1 R) (F_R_sense_j3 R (F_R_sense_j1 R))).toInt64 c2
  have hS : F_Sensors_sense C = F_Sensors_sense_k9 C (F_R_sense_j1 R) (F_R_sense_j3 R (F_R_sense_j1 R)) (F_Sensors_sense_j8 C (F_R_sense_j1 R) (F_R_sense_j3 R (F_R_sense_j1 R))) := by
    unfold F_Sensors_sense F_Sensors_sense_k3 F_Sensors_sense_k6
    rw [t1, c1]
  have hR : F_R_sense R = F_R_sense_k10 R (F_R_sense_j1 R) (F_R_sense_j3 R (F_R_sense_j1 R)) (F_R_sense_j5 R (F_R_sense_j1 R) (F_R_sense_j3 R (F_R_sense_j1 R))) (F_Sensors_sense_j8 C (F_R_sense_j1 R) (F_R_sense_j3 R (F_R_sense_j1 R))).toInt64 ((if 10 * F_R_sense_j3 R (F_R_sense_j1 R) < 100000 then 10 * F_R_sense_j3 R (F_R_sense_j1 R) else 100000).toInt32).toInt64 := by
    unfold F_R_sense F_R_sense_k2 F_R_sense_k4 F_R_sense_k6 F_R_sense_k8
    rw [y1, x1]
  clear x1 y1 t1 c1
  generalize F_R_sense_j5 R (F_R_sense_j1 R) (F_R_sense_j3 R (F_R_sense_j1 R)) = j5 at hR
  generalize F_Sensors_sense_j8 C (F_R_sense_j1 R) (F_R_sense_j3 R (F_R_sense_j1 R)) = x at hR hS x2
  unfold F_Sensors_sense_k9 F_Sensors_sense_k10 at hS
  generalize (if 10 * F_R_sense_j3 R (F_R_sense_j1 R) < 100000 then 10 * F_R_sense_j3 R (F_R_sense_j1 R) else 100000) = yy at hR hS y2
  generalize F_R_sense_j3 R (F_R_sense_j1 R) = c at hR hS
  generalize F_R_sense_j1 R = t at hR hS
  unfold F_Sensors_sense_k11 F_Sensors_sense_k12 at hS
  have u1 : F_R_sense_j11 R t c j5 x.toInt64 yy.toInt32.toInt64 = (if x < yy.toInt32 then yy.toInt32 else x).toInt64 := by
    unfold F_R_sense_j11
    exact sn_max x yy.toInt32
  have ur : 0 ≤ (if x < yy.toInt32 then yy.toInt32 else x).toInt ∧ (if x < yy.toInt32 then yy.toInt32 else x).toInt ≤ 100000 := by
    by_cases q : x < yy.toInt32
    · rw [if_pos q]; exact y2
    · rw [if_neg q]; exact x2
  have fin := sn_fin R C t c j5 x yy.toInt32 (if x < yy.toInt32 then yy.toInt32 else x) (if yy.toInt32 < x then yy.toInt32 else x) x2 y2 rfl rfl ur a0 a0r a19 aT b1 b4a b4b b4c b5 b5d b7 b14
  unfold F_R_sense_k10 at hR
  rw [u1] at hR
  unfold F_Control_readSensors
  rw [hS, hR]
  exact fin


