/-! faults, dose, program -/
theorem i0 : (0 : Int32).toInt = 0 := by decide
theorem im1 : (-1 : Int32).toInt = -1 := by decide
theorem ex_rd (N : XM) {x : Int32} (hx : x = -1 ∨ (0 ≤ x.toInt ∧ x.toInt ≤ 3)) : F_Rotors_exists N x = if 0 ≤ x then 1 else 0 := by
  unfold F_Rotors_exists F_Rotors_exists_k1 F_U_within
  rcases hx with rfl | hx
  · decide
  · simp only [Int32.lt_iff_toInt_lt, Int32.le_iff_toInt_le, i0, show (3 : Int32).toInt = 3 by decide]
    rw [if_neg (by omega), if_neg (by omega), if_pos hx.1]
theorem vRd_r {R : XM} {x : Int32} (h : vRd R x) : x = -1 ∨ (0 ≤ x.toInt ∧ x.toInt ≤ 3) := h.elim Or.inl (fun q => Or.inr q.1)
theorem vRd_t {C R : XM} (hT : vRT C R) {x : Int32} (h : vRd R x) (hx : 0 ≤ x) : x.toNatClampNeg < 4 ∧ ¬ R.2.2.1 21 x.toNatClampNeg = 0 ∧ C.2.2.1 3 x.toNatClampNeg = R.2.2.1 23 x.toNatClampNeg ∧ C.2.2.1 4 x.toNatClampNeg = R.2.2.1 24 x.toNatClampNeg := by
  rcases h with rfl | ⟨h1, h2⟩
  · exact absurd hx (by decide)
  · have hk : x.toNatClampNeg < 4 := clamp_lt h1.1 (by omega)
    rcases hT.1 _ hk with ⟨k1, -⟩ | ⟨k1, k2, k3, k4, k5, -⟩
    · exact absurd k1 h2
    · exact ⟨hk, k1, k4, k5⟩
theorem ft_limit {N K R : XM} (hT : vRT N R) (hN : N.1 23 = K.1 116) (hd : vRd R (K.1 116)) (hK : K.2.2.1 = R.2.2.1) : (F_Rotors_limitOf N (N.1 23)).toInt64 = F_R_watch_j1 K := by
  unfold F_Rotors_limitOf F_Rotors_limitOf_k1 F_R_watch_j1
  rw [hN, ex_rd N (vRd_r hd), hK]
  by_cases q : 0 ≤ K.1 116
  · rw [if_pos q, if_neg (by decide), if_pos q, (vRd_t hT hd q).2.2.2]
  · rw [if_neg q, if_pos rfl, if_neg q]
    decide
theorem ft_radius {N R : XM} (hT : vRT N R) {x : Int32} (hd : vRd R x) : F_Rotors_radiusOf N x = if 0 ≤ x then R.2.2.1 23 x.toNatClampNeg else 0 := by
  unfold F_Rotors_radiusOf F_Rotors_radiusOf_k1
  rw [ex_rd N (vRd_r hd)]
  by_cases q : 0 ≤ x
  · rw [if_pos q, if_neg (by decide), if_pos q, (vRd_t hT hd q).2.2.1]
  · rw [if_neg q, if_pos rfl, if_neg q]
theorem ft_watch {N K R : XM} (hT : vRT N R) (h8 : N.1 8 = K.1 121) (h9 : N.1 9 = K.1 122) (h24 : N.1 24 = 0 ↔ K.1 117 = 0) (h23 : N.1 23 = K.1 116) (hd : vRd R (K.1 116)) (hK : K.2.2.1 = R.2.2.1) (h6 : K.2.1 103 = (N.1 6).toInt64) (h21 : N.1 21 = K.1 119) (h22 : N.1 22 = K.1 120) : F_Control_faultReason N = F_R_watch_j4 K (F_R_watch_j1 K) (F_R_isLocked K) := by
  have hl := ft_limit hT h23 hd hK
  have e : (lg_cmp (N.1 6).toInt64 (F_Rotors_limitOf N (N.1 23)).toInt64 ≤ 0) ↔ N.1 6 ≤ F_Rotors_limitOf N (N.1 23) := by
    rw [lg_cmp_le, Int64.le_iff_toInt_le, n_w, n_w, Int32.le_iff_toInt_le]
  unfold F_Control_faultReason F_Control_faultReason_k1 F_Control_faultReason_k2 F_Control_faultReason_k3 F_Control_faultReason_k4 F_R_watch_j4 F_Lid_locked F_R_isLocked F_Watch_differsTooLong F_Watch_shakesTooLong
  rw [← hl, h6, h8, h9, h21, h22]
  simp only [e, h24]
  by_cases q1 : K.1 121 = 0 <;> by_cases q2 : K.1 122 = 0 <;> by_cases q3 : K.1 117 = 0 <;> by_cases q4 : N.1 6 ≤ F_Rotors_limitOf N (N.1 23) <;> by_cases q5 : K.1 119 < 5 <;> by_cases q6 : K.1 120 < 10 <;> simp [q1, q2, q3, q4, q5, q6]
theorem ft_lw {N K R : XM} (hT : vRT N R) (h8 : N.1 8 = K.1 121) (h9 : N.1 9 = K.1 122) (h24 : N.1 24 = 0 ↔ K.1 117 = 0) (h23 : N.1 23 = K.1 116) (hd : vRd R (K.1 116)) (hK : K.2.2.1 = R.2.2.1) (h6 : K.2.1 103 = (N.1 6).toInt64) (h21 : N.1 21 = K.1 119) (h22 : N.1 22 = K.1 120) (h14 : N.1 14 = K.1 110) (h15 : N.1 15 = K.1 111) (tt : K.1 110 = 1 ∨ K.1 110 = 2) : F_Control_lookForFault N = F_R_watch K ∧ ((F_R_watch K).1 = 1 ∨ (F_R_watch K).1 = 2 → F_R_watch K = (K.1 110, K.1 111) ∧ K.1 117 = 0) ∧ ((F_R_watch K).1 = 1 ∨ (F_R_watch K).1 = 2 ∨ (F_R_watch K).1 = 3) := by
  have hz : F_Control_turning N = 1 := by
    unfold F_Control_turning
    rw [h14]
    rcases tt with q | q
    · rw [if_pos q]
    · rw [if_neg (by rw [q]; decide), if_pos q]
  have hw := ft_watch hT h8 h9 h24 h23 hd hK h6 h21 h22
  have hj : F_R_watch_j4 K (F_R_watch_j1 K) (F_R_isLocked K) = 0 → K.1 117 = 0 := by
    unfold F_R_watch_j4
    intro q
    by_cases a : F_R_isLocked K = 0
    · rw [if_pos a] at q; exact absurd q (by decide)
    · rw [if_neg a] at q
      by_cases b : K.1 117 = 0
      · exact b
      · rw [if_neg b] at q; exact absurd q (by decide)
  unfold F_Control_lookForFault F_Control_lookForFault_k1 F_Control_lookForFault_k2 F_R_watch F_R_watch_k2 F_R_watch_k3 F_R_watch_k5
  rw [hz, if_neg (show ¬ (1 : Int32) = 0 by decide), hw, h14, h15]
  generalize F_R_watch_j4 K (F_R_watch_j1 K) (F_R_isLocked K) = z at hj
  by_cases q : z = 0
  · rw [if_pos q]
    exact ⟨rfl, fun _ => ⟨rfl, hj q⟩, tt.elim Or.inl (fun g => Or.inr (Or.inl g))⟩
  · rw [if_neg q]
    exact ⟨rfl, fun g => g.elim (fun g => absurd (show (3 : Int32) = 1 from g) (by decide)) (fun g => absurd (show (3 : Int32) = 2 from g) (by decide)), Or.inr (Or.inr rfl)⟩
theorem ds_add {N R : XM} (u1 : Int64 × Int64 × Int64 × Int32 × Int32 × Int32 × Int64 × Int64 × Int32 × Int32 × Int32 × Int32) (j2 : Int32 × Int32) (hT : vRT N R) (l : Int64) (h7 : l = (N.1 7).toInt64) (h23 : N.1 23 = u1.2.2.2.2.2.2.2.2.2.2.2) (hd : vRd R u1.2.2.2.2.2.2.2.2.2.2.2) (h1 : N.2.1 1 = R.2.1 105) (h14 : N.1 14 = 1) : F_Control_addDose N = R.2.1 105 + F_R_control_j8 R u1 j2 l := by
  unfold F_Control_addDose F_Control_addDose_k1 F_R_control_j8
  rw [if_pos h14, h23, ft_radius hT hd, h1, h7]
  by_cases q : 0 ≤ u1.2.2.2.2.2.2.2.2.2.2.2
  · rw [if_pos q, if_pos q]
  · rw [if_neg q, if_neg q, show Int32.toInt64 0 = 0 by decide, Int64.zero_mul, Int64.zero_mul]
/-! steering -/
theorem td4 (x : Int) : x.tdiv 4 = if 0 ≤ x then x / 4 else -((-x) / 4) := by
  by_cases q : 0 ≤ x
  · rw [if_pos q, Int.tdiv_eq_ediv_of_nonneg q]
  · rw [if_neg q, ← Int.tdiv_eq_ediv_of_nonneg (by omega), Int.neg_tdiv]
    omega
theorem n32_d4 {x : Int32} (h : -1000000 ≤ x.toInt ∧ x.toInt ≤ 1000000) : (x / 4).toInt = x.toInt.tdiv 4 := by
  rw [Int32.toInt_div, show (4 : Int32).toInt = 4 by decide]
  have e := td4 x.toInt
  exact Int.bmod_eq_of_le_mul_two (by rw [e]; split <;> omega) (by rw [e]; split <;> omega)
theorem n64_d4 {x : Int64} (h : -1000000 ≤ x.toInt ∧ x.toInt ≤ 1000000) : (x / 4).toInt = x.toInt.tdiv 4 := by
  rw [Int64.toInt_div, show (4 : Int64).toInt = 4 by decide]
  have e := td4 x.toInt
  exact Int.bmod_eq_of_le_mul_two (by rw [e]; split <;> omega) (by rw [e]; split <;> omega)
theorem kg_all {N K : XM} {g u : Int32} (h28 : N.1 28 = g) (h6 : N.1 6 = u) (h16 : N.1 16 = 0) (h17 : N.1 17 = 0) (k104 : K.2.1 104 = g.toInt64) (k103 : K.2.1 103 = u.toInt64) (hg : 0 ≤ g.toInt ∧ g.toInt ≤ 100000) (hu : 0 ≤ u.toInt ∧ u.toInt ≤ 100000) : F_Control_keepToGoal N = F_R_steer K ∧ (0 ≤ (F_R_steer K).1.toInt ∧ (F_R_steer K).1.toInt ≤ 100) ∧ (0 ≤ (F_R_steer K).2.toInt ∧ (F_R_steer K).2.toInt ≤ 9) := by
  have s1 : (g - u).toInt = g.toInt - u.toInt := n32_sub (by omega) (by omega)
  have s2 : (g.toInt64 - u.toInt64).toInt = g.toInt - u.toInt := by rw [n64_sub (by rw [n_w, n_w]; omega) (by rw [n_w, n_w]; omega), n_w, n_w]
  have d1 : ((g - u) / 4).toInt = (g.toInt - u.toInt).tdiv 4 := by rw [n32_d4 (by rw [s1]; omega), s1]
  have d2 : ((g.toInt64 - u.toInt64) / 4).toInt = (g.toInt - u.toInt).tdiv 4 := by rw [n64_d4 (by rw [s2]; omega), s2]
  have e := td4 (g.toInt - u.toInt)
  have hD : -25000 ≤ (g.toInt - u.toInt).tdiv 4 ∧ (g.toInt - u.toInt).tdiv 4 ≤ 25000 := by
    rw [e]; split <;> omega
  generalize (g.toInt - u.toInt).tdiv 4 = D at *
  have f1 : (40 + (g - u) / 4).toInt = 40 + D := by
    rw [n32_add (by rw [d1, show (40 : Int32).toInt = 40 by decide]; omega) (by rw [d1, show (40 : Int32).toInt = 40 by decide]; omega), d1, show (40 : Int32).toInt = 40 by decide]
  have f2 : (40 + (g.toInt64 - u.toInt64) / 4).toInt = 40 + D := by
    rw [n64_add (by rw [d2, show (40 : Int64).toInt = 40 by decide]; omega) (by rw [d2, show (40 : Int64).toInt = 40 by decide]; omega), d2, show (40 : Int64).toInt = 40 by decide]
  have f3 : (g.toInt64 + 200).toInt = g.toInt + 200 := by
    rw [n64_add (by rw [n_w, show (200 : Int64).toInt = 200 by decide]; omega) (by rw [n_w, show (200 : Int64).toInt = 200 by decide]; omega), n_w, show (200 : Int64).toInt = 200 by decide]
  have c1 : (lg_cmp u.toInt64 (g.toInt64 + 200) ≤ 0) ↔ (-200 ≤ g - u) := by
    rw [lg_cmp_le, Int64.le_iff_toInt_le, Int32.le_iff_toInt_le, f3, n_w, s1, show (-200 : Int32).toInt = -200 by decide]
    omega
  have c2 : (lg_cmp g.toInt64 0 = 0) ↔ g = 0 := by
    rw [lg_cmp_eq]
    exact ⟨fun q => n_wi (y := 0) q, fun q => by rw [q]; rfl⟩
  unfold F_Control_keepToGoal F_Control_keepToGoal_k1 F_Control_keepToGoal_k2 F_R_steer F_R_steer_k2 F_R_steer_j1
  rw [h28, h6, h16, h17, k104, k103]
  simp only [c1, c2, lg_cmp_ge, lg_cmp_le, Int64.le_iff_toInt_le, Int32.lt_iff_toInt_lt, f1, f2, i0, show (0 : Int64).toInt = 0 by decide, show (100 : Int64).toInt = 100 by decide, show (100 : Int32).toInt = 100 by decide]
  by_cases q1 : -200 ≤ g - u
  · rw [if_pos q1, if_pos q1]
    by_cases q2 : g = 0
    · rw [if_pos q2, if_pos q2]
      decide
    · rw [if_neg q2, if_neg q2]
      have f4 : ((40 + (g.toInt64 - u.toInt64) / 4)).toInt32 = 40 + (g - u) / 4 := n_eq32 (by rw [n_n (by rw [f2]; omega) (by rw [f2]; omega), f1, f2])
      by_cases q3 : 40 + D < 100
      · rw [if_pos q3, f1]
        by_cases q4 : 0 ≤ 40 + D
        · rw [if_pos q4, if_pos (show 40 + D ≤ 100 by omega), f4]
          by_cases q5 : 0 < 40 + D
          · rw [if_pos q5]
            have x1 : 0 ≤ (40 + (g - u) / 4).toInt ∧ (40 + (g - u) / 4).toInt ≤ 100 := by rw [f1]; omega
            have x2 : 0 ≤ (0 : Int32).toInt ∧ (0 : Int32).toInt ≤ 9 := by decide
            exact ⟨rfl, x1, x2⟩
          · rw [if_neg q5]
            have f5 : 40 + (g - u) / 4 = 0 := n_eq32 (by rw [f1, i0]; omega)
            rw [f5]
            decide
        · rw [if_neg q4, if_neg (show ¬ 0 < 40 + D by omega)]
          decide
      · rw [if_neg q3, show (100 : Int32).toInt = 100 by decide, if_pos (show (0 : Int) < 100 by decide), if_pos (show 0 ≤ 40 + D by omega)]
        by_cases q6 : 40 + D ≤ 100
        · rw [if_pos q6, f4]
          have f5 : 40 + (g - u) / 4 = 100 := n_eq32 (by rw [f1, show (100 : Int32).toInt = 100 by decide]; omega)
          rw [f5]
          decide
        · rw [if_neg q6]
          decide
  · rw [if_neg q1, if_neg q1]
    decide
theorem mg_all {N K : XM} {j a b : Int32} (h28 : N.1 28 = j) (k27 : K.2.2.1 27 (K.1 112).toNatClampNeg = a) (k28 : K.2.2.1 28 (K.1 112).toNatClampNeg = b) (hj : 0 ≤ j.toInt ∧ j.toInt ≤ 100000) (ha : 0 ≤ a.toInt ∧ a.toInt ≤ 20000) (hb : 1 ≤ b.toInt ∧ b.toInt ≤ 500) : (F_Run_moveGoal N a b).toInt64 = F_R_work_j11 K j.toInt64 ∧ (0 ≤ (F_Run_moveGoal N a b).toInt ∧ (F_Run_moveGoal N a b).toInt ≤ 100000) := by
  have s1 : (j - b).toInt = j.toInt - b.toInt := n32_sub (by omega) (by omega)
  have s2 : (j.toInt64 - b.toInt64).toInt = j.toInt - b.toInt := by rw [n64_sub (by rw [n_w, n_w]; omega) (by rw [n_w, n_w]; omega), n_w, n_w]
  have s3 : (j + b).toInt = j.toInt + b.toInt := n32_add (by omega) (by omega)
  have s4 : (j.toInt64 + b.toInt64).toInt = j.toInt + b.toInt := by rw [n64_add (by rw [n_w, n_w]; omega) (by rw [n_w, n_w]; omega), n_w, n_w]
  have t1 : (j - b).toInt64 = j.toInt64 - b.toInt64 := n_eq (by rw [n_w, s1, s2])
  have t2 : (j + b).toInt64 = j.toInt64 + b.toInt64 := n_eq (by rw [n_w, s3, s4])
  unfold F_Run_moveGoal F_Run_moveGoal_k1 F_Run_moveGoal_k2 F_R_work_j11
  rw [h28, k27, k28]
  simp only [lg_cmp_ge, lg_cmp_le, Int64.le_iff_toInt_le]
  simp only [Int32.lt_iff_toInt_lt, Int32.le_iff_toInt_le, n_w, s1, s2, s3, s4]
  by_cases q1 : a.toInt ≤ j.toInt
  · rw [if_pos q1, if_pos q1]
    by_cases q2 : a.toInt < j.toInt - b.toInt
    · rw [if_pos q2, if_neg (by omega)]
      exact ⟨t1, by rw [s1]; omega⟩
    · rw [if_neg q2, if_pos (by omega)]
      exact ⟨rfl, by omega⟩
  · rw [if_neg q1, if_neg q1]
    by_cases q2 : j.toInt + b.toInt < a.toInt
    · rw [if_pos q2, if_neg (by omega)]
      exact ⟨t2, by rw [s3]; omega⟩
    · rw [if_neg q2, if_pos (by omega)]
      exact ⟨rfl, by omega⟩

/-! one tick's work at a segment -/
def vWk (K : XM) (P : Int32 × (Int32 × Int32 × Int32 × Int32)) (W : Int32 × (Int32 × Int64 × Int32 × Int32)) : Prop := W.1 = P.1 ∧ W.2.1 = P.2.1 ∧ W.2.2.1 = P.2.2.1.toInt64 ∧ W.2.2.2.1 = P.2.2.2.1 ∧ W.2.2.2.2 = P.2.2.2.2 ∧ (0 ≤ P.2.2.1.toInt ∧ P.2.2.1.toInt ≤ 100000) ∧ (0 ≤ P.2.2.2.1.toInt ∧ P.2.2.2.1.toInt ≤ 100) ∧ (0 ≤ P.2.2.2.2.toInt ∧ P.2.2.2.2.toInt ≤ 9) ∧ (P.1 = 0 → K.2.2.1 26 (K.1 112).toNatClampNeg = 1 → 0 ≤ P.2.1.toInt ∧ P.2.1.toInt < (K.2.2.1 27 (K.1 112).toNatClampNeg).toInt)
theorem wk_in (M : XM) (u a : Int32) (hu : 0 ≤ u.toInt ∧ u.toInt ≤ 100000) (ha : 0 ≤ a.toInt ∧ a.toInt ≤ 20000) : (F_R_in M u.toInt64 (a.toInt64 - 100) (a.toInt64 + 100) = 0) ↔ 100 < (if 0 ≤ u - a then u - a else 0 - (u - a)) := by
  have e1 : (a.toInt64 - 100).toInt = a.toInt - 100 := by rw [n64_sub (by rw [n_w, show (100 : Int64).toInt = 100 by decide]; omega) (by rw [n_w, show (100 : Int64).toInt = 100 by decide]; omega), n_w, show (100 : Int64).toInt = 100 by decide]
  have e2 : (a.toInt64 + 100).toInt = a.toInt + 100 := by rw [n64_add (by rw [n_w, show (100 : Int64).toInt = 100 by decide]; omega) (by rw [n_w, show (100 : Int64).toInt = 100 by decide]; omega), n_w, show (100 : Int64).toInt = 100 by decide]
  have e3 : (u - a).toInt = u.toInt - a.toInt := n32_sub (by omega) (by omega)
  have e4 : (0 - (u - a)).toInt = a.toInt - u.toInt := by rw [n32_sub (by rw [e3, i0]; omega) (by rw [e3, i0]; omega), e3, i0]; omega
  unfold F_R_in
  simp only [lg_cmp_lt, lg_cmp_gt, Int64.lt_iff_toInt_lt]
  simp only [Int32.lt_iff_toInt_lt, Int32.le_iff_toInt_le, e1, e2, e3, i0, n_w, show (100 : Int32).toInt = 100 by decide]
  by_cases q1 : u.toInt < a.toInt - 100
  · rw [if_pos q1, if_neg (by omega), e4]
    exact ⟨fun _ => by omega, fun _ => rfl⟩
  · rw [if_neg q1]
    by_cases q2 : a.toInt + 100 < u.toInt
    · rw [if_pos q2, if_pos (by omega), e3]
      exact ⟨fun _ => by omega, fun _ => rfl⟩
    · rw [if_neg q2]
      refine ⟨fun g => absurd g (by decide), fun g => ?_⟩
      by_cases q3 : 0 ≤ u.toInt - a.toInt
      · rw [if_pos q3, e3] at g; omega
      · rw [if_neg q3, e4] at g; omega
set_option maxHeartbeats 4000000 in
set_option maxRecDepth 100000 in
theorem wk_all {N K : XM} {w : Int32} (hw : K.1 112 = w) (n7 : N.2.2.1 7 w.toNatClampNeg = K.2.2.1 26 w.toNatClampNeg) (n8 : N.2.2.1 8 w.toNatClampNeg = K.2.2.1 27 w.toNatClampNeg) (n9 : N.2.2.1 9 w.toNatClampNeg = K.2.2.1 28 w.toNatClampNeg) (hs : vSeg (K.2.2.1 26 w.toNatClampNeg) (K.2.2.1 27 w.toNatClampNeg) (K.2.2.1 28 w.toNatClampNeg)) (h27 : N.1 27 = K.1 113) (h6 : K.2.1 103 = (N.1 6).toInt64) (hu : 0 ≤ (N.1 6).toInt ∧ (N.1 6).toInt ≤ 100000) (h28 : K.2.1 104 = (N.1 28).toInt64) (hg : 0 ≤ (N.1 28).toInt ∧ (N.1 28).toInt ≤ 100000) (h13 : N.1 13 = K.1 124) (h1 : N.2.1 1 = K.2.1 105) (h16 : N.1 16 = 0) (h17 : N.1 17 = 0) (hk : K.2.2.1 26 w.toNatClampNeg = 1 → 0 ≤ (K.1 113).toInt ∧ (K.1 113).toInt < (K.2.2.1 27 w.toNatClampNeg).toInt) : vWk K (F_Control_segmentIsThrough N w) (F_R_work K) := by
  unfold F_Control_segmentIsThrough F_R_work F_R_work_j5
  rw [n7, n8, n9, hw]
  have v6 : ∀ x : Int32, va_up N.1 27 x 6 = N.1 6 := fun _ => rfl
  have v28 : ∀ x : Int32, va_up N.1 27 x 28 = N.1 28 := fun _ => rfl
  have v27 : ∀ x : Int32, va_up N.1 27 x 27 = x := fun _ => rfl
  have r0 : 0 ≤ (N.1 16).toInt ∧ (N.1 16).toInt ≤ 100 := by rw [h16]; decide
  have s28 := kg_all (N := ((va_up N.1 27 (N.1 27 + 1)), N.2)) (K := ((va_up K.1 113 (K.1 113 + 1)), (va_up K.2.1 104 (N.1 28).toInt64), K.2.2)) (g := N.1 28) (u := N.1 6) rfl rfl h16 h17 rfl h6 hg hu
  rcases hs with ⟨k0, ka, kb⟩ | ⟨k0, ka⟩ | ⟨k0, ka⟩ | ⟨k0, ka, kb⟩ | ⟨k0, ka⟩
  · have ng : ¬ K.2.2.1 26 (K.1 112).toNatClampNeg = 1 := by rw [hw, k0]; decide
    rw [k0, if_pos rfl, if_neg (show ¬ (0 : Int32) = 3 by decide), if_pos rfl]
    unfold F_R_work_k10 F_R_work_k12 F_Control_ramp F_Control_ramp_k2 F_Control_ramp_k3
    have hj : F_R_work_j9 K = (F_Control_ramp_j1 ((va_up N.1 27 (N.1 27 + 1)), N.2) (K.2.2.1 27 w.toNatClampNeg) (K.2.2.1 28 w.toNatClampNeg)).toInt64 ∧ (0 ≤ (F_Control_ramp_j1 ((va_up N.1 27 (N.1 27 + 1)), N.2) (K.2.2.1 27 w.toNatClampNeg) (K.2.2.1 28 w.toNatClampNeg)).toInt ∧ (F_Control_ramp_j1 ((va_up N.1 27 (N.1 27 + 1)), N.2) (K.2.2.1 27 w.toNatClampNeg) (K.2.2.1 28 w.toNatClampNeg)).toInt ≤ 100000) := by
      have e : F_Control_ramp_j1 ((va_up N.1 27 (N.1 27 + 1)), N.2) (K.2.2.1 27 w.toNatClampNeg) (K.2.2.1 28 w.toNatClampNeg) = if K.1 113 + 1 = 1 then N.1 6 else N.1 28 := by
        unfold F_Control_ramp_j1
        show (if N.1 27 + 1 = 1 then N.1 6 else N.1 28) = _
        rw [h27]
      rw [e]
      unfold F_R_work_j9
      by_cases q : K.1 113 + 1 = 1
      · rw [if_pos q, if_pos q]; exact ⟨h6, hu⟩
      · rw [if_neg q, if_neg q]; exact ⟨h28, hg⟩
    generalize F_Control_ramp_j1 ((va_up N.1 27 (N.1 27 + 1)), N.2) (K.2.2.1 27 w.toNatClampNeg) (K.2.2.1 28 w.toNatClampNeg) = j at hj
    rw [hj.1]
    dsimp only
    have hm := mg_all (N := ((va_up (va_up N.1 27 (N.1 27 + 1)) 28 j), N.2)) (K := K) (j := j) (a := K.2.2.1 27 w.toNatClampNeg) (b := K.2.2.1 28 w.toNatClampNeg) rfl (by rw [hw]) (by rw [hw]) hj.2 ka kb
    rw [← hm.1]
    generalize F_Run_moveGoal ((va_up (va_up N.1 27 (N.1 27 + 1)) 28 j), N.2) (K.2.2.1 27 w.toNatClampNeg) (K.2.2.1 28 w.toNatClampNeg) = u3 at hm
    have hkg := kg_all (N := ((va_up (va_up N.1 27 (N.1 27 + 1)) 28 u3), N.2)) (K := ((va_up K.1 113 (K.1 113 + 1)), (va_up K.2.1 104 u3.toInt64), K.2.2)) (g := u3) (u := N.1 6) rfl rfl h16 h17 rfl h6 hm.2 hu
    rw [hkg.1]
    unfold F_R_work_k6
    generalize F_R_steer ((va_up K.1 113 (K.1 113 + 1)), (va_up K.2.1 104 u3.toInt64), K.2.2) = u4 at hkg
    unfold F_R_work_k7 F_R_work_k8 F_Control_ramp_k4 F_Control_ramp_k5
    dsimp only
    rw [hw, k0, if_pos rfl, h6]
    have c1 : (lg_cmp u3.toInt64 (K.2.2.1 27 w.toNatClampNeg).toInt64 = 0) ↔ u3 = K.2.2.1 27 w.toNatClampNeg := by
      rw [lg_cmp_eq]
      exact ⟨fun q => n_wi q, fun q => by rw [q]⟩
    have c2 := wk_in K (N.1 6) (K.2.2.1 27 w.toNatClampNeg) hu ka
    unfold F_Control_segmentIsThrough_k1
    by_cases q1 : u3 = K.2.2.1 27 w.toNatClampNeg
    · rw [if_pos q1, if_pos (c1.mpr q1)]
      by_cases q2 : 100 < (if 0 ≤ N.1 6 - K.2.2.1 27 w.toNatClampNeg then N.1 6 - K.2.2.1 27 w.toNatClampNeg else 0 - (N.1 6 - K.2.2.1 27 w.toNatClampNeg))
      · rw [if_pos (show 100 < (if 0 ≤ va_up N.1 27 (N.1 27 + 1) 6 - K.2.2.1 27 w.toNatClampNeg then va_up N.1 27 (N.1 27 + 1) 6 - K.2.2.1 27 w.toNatClampNeg else 0 - (va_up N.1 27 (N.1 27 + 1) 6 - K.2.2.1 27 w.toNatClampNeg)) from q2), if_pos (c2.mpr q2)]
        exact ⟨rfl, congrArg (fun z => z + 1) h27.symm, rfl, rfl, rfl, hm.2, hkg.2.1, hkg.2.2, fun _ g => absurd g ng⟩
      · rw [if_neg (show ¬ 100 < (if 0 ≤ va_up N.1 27 (N.1 27 + 1) 6 - K.2.2.1 27 w.toNatClampNeg then va_up N.1 27 (N.1 27 + 1) 6 - K.2.2.1 27 w.toNatClampNeg else 0 - (va_up N.1 27 (N.1 27 + 1) 6 - K.2.2.1 27 w.toNatClampNeg)) from q2), if_neg (fun g => q2 (c2.mp g))]
        exact ⟨rfl, congrArg (fun z => z + 1) h27.symm, rfl, rfl, rfl, hm.2, hkg.2.1, hkg.2.2, fun _ g => absurd g ng⟩
    · rw [if_neg q1, if_neg (fun g => q1 (c1.mp g))]
      exact ⟨rfl, congrArg (fun z => z + 1) h27.symm, rfl, rfl, rfl, hm.2, hkg.2.1, hkg.2.2, fun _ g => absurd g ng⟩
  · rw [k0, if_neg (show ¬ (1 : Int32) = 0 by decide), if_pos rfl, if_neg (show ¬ (1 : Int32) = 3 by decide), if_neg (show ¬ (1 : Int32) = 0 by decide), h28, s28.1]
    unfold F_R_work_k6
    generalize F_R_steer ((va_up K.1 113 (K.1 113 + 1)), (va_up K.2.1 104 (N.1 28).toInt64), K.2.2) = u4 at s28
    unfold F_R_work_k7 F_Control_segmentIsThrough_k2
    rw [hw, k0, if_neg (show ¬ (1 : Int32) = 0 by decide), if_pos rfl, n8, h27]
    have hr := hk k0
    have e1 : (K.1 113 + 1).toInt = (K.1 113).toInt + 1 := by
      rw [n32_add (by rw [show (1 : Int32).toInt = 1 by decide]; omega) (by rw [show (1 : Int32).toInt = 1 by decide]; omega), show (1 : Int32).toInt = 1 by decide]
    have c1 : (lg_cmp (K.1 113 + 1).toInt64 (K.2.2.1 27 w.toNatClampNeg).toInt64 = 0) ↔ ¬ (K.1 113 + 1 < K.2.2.1 27 w.toNatClampNeg) := by
      rw [lg_cmp_eq, Int32.lt_iff_toInt_lt, e1]
      refine ⟨fun q => ?_, fun q => n_eq (by rw [n_w, n_w, e1]; omega)⟩
      have := congrArg Int64.toInt q
      rw [n_w, n_w, e1] at this
      omega
    by_cases q : K.1 113 + 1 < K.2.2.1 27 w.toNatClampNeg
    · rw [if_neg (fun g => (c1.mp g) q), if_pos q]
      refine ⟨rfl, rfl, rfl, rfl, rfl, hg, s28.2.1, s28.2.2, fun _ _ => ?_⟩
      rw [Int32.lt_iff_toInt_lt, e1] at q
      rw [hw]
      show 0 ≤ (K.1 113 + 1).toInt ∧ (K.1 113 + 1).toInt < _
      rw [e1]
      omega
    · rw [if_pos (c1.mpr q), if_neg q]
      exact ⟨rfl, rfl, rfl, rfl, rfl, hg, s28.2.1, s28.2.2, fun g => absurd (show (1 : Int32) = 0 from g) (by decide)⟩
  · have ng : ¬ K.2.2.1 26 (K.1 112).toNatClampNeg = 1 := by rw [hw, k0]; decide
    rw [k0, if_neg (show ¬ (2 : Int32) = 0 by decide), if_neg (show ¬ (2 : Int32) = 1 by decide), if_pos rfl, if_neg (show ¬ (2 : Int32) = 3 by decide), if_neg (show ¬ (2 : Int32) = 0 by decide), h28, s28.1]
    unfold F_R_work_k6
    generalize F_R_steer ((va_up K.1 113 (K.1 113 + 1)), (va_up K.2.1 104 (N.1 28).toInt64), K.2.2) = u4 at s28
    unfold F_R_work_k7 F_Control_segmentIsThrough_k3
    rw [hw, k0, if_neg (show ¬ (2 : Int32) = 0 by decide), if_neg (show ¬ (2 : Int32) = 1 by decide), if_pos rfl, n8, h27, h1, Int64.mul_comm 1000000000]
    by_cases q : lg_cmp (K.2.1 105) ((K.2.2.1 27 w.toNatClampNeg).toInt64 * 1000000000) < 0
    · rw [if_pos q, if_pos q]
      exact ⟨rfl, rfl, rfl, rfl, rfl, hg, s28.2.1, s28.2.2, fun _ g => absurd g ng⟩
    · rw [if_neg q, if_neg q]
      exact ⟨rfl, rfl, rfl, rfl, rfl, hg, s28.2.1, s28.2.2, fun _ g => absurd g ng⟩
  · have ng : ¬ K.2.2.1 26 (K.1 112).toNatClampNeg = 1 := by rw [hw, k0]; decide
    have ka2 : 0 ≤ (K.2.2.1 27 w.toNatClampNeg).toInt ∧ (K.2.2.1 27 w.toNatClampNeg).toInt ≤ 100000 := by omega
    have kb2 : 0 ≤ (K.2.2.1 28 w.toNatClampNeg).toInt ∧ (K.2.2.1 28 w.toNatClampNeg).toInt ≤ 9 := by omega
    rw [k0, if_neg (show ¬ (3 : Int32) = 0 by decide), if_neg (show ¬ (3 : Int32) = 1 by decide), if_neg (show ¬ (3 : Int32) = 2 by decide), if_pos rfl, if_pos rfl]
    unfold F_Control_segmentIsThrough_k4 F_Control_slowDown
    dsimp only
    rw [h6, h28]
    have c1 : (lg_cmp (N.1 6).toInt64 (K.2.2.1 27 w.toNatClampNeg).toInt64 ≤ 0) ↔ N.1 6 ≤ K.2.2.1 27 w.toNatClampNeg := by
      rw [lg_cmp_le, Int64.le_iff_toInt_le, n_w, n_w, Int32.le_iff_toInt_le]
    by_cases q : N.1 6 ≤ K.2.2.1 27 w.toNatClampNeg
    · rw [if_pos (show va_up N.1 27 (N.1 27 + 1) 6 ≤ K.2.2.1 27 w.toNatClampNeg from q), if_pos (c1.mpr q)]
      exact ⟨rfl, congrArg (fun z => z + 1) h27.symm, rfl, h16.symm, rfl, ka2, r0, kb2, fun _ g => absurd g ng⟩
    · rw [if_neg (show ¬ va_up N.1 27 (N.1 27 + 1) 6 ≤ K.2.2.1 27 w.toNatClampNeg from q), if_neg (fun g => q (c1.mp g))]
      exact ⟨rfl, congrArg (fun z => z + 1) h27.symm, rfl, h16.symm, rfl, hg, r0, kb2, fun _ g => absurd g ng⟩
  · have ng : ¬ K.2.2.1 26 (K.1 112).toNatClampNeg = 1 := by rw [hw, k0]; decide
    rw [k0, if_neg (show ¬ (4 : Int32) = 0 by decide), if_neg (show ¬ (4 : Int32) = 1 by decide), if_neg (show ¬ (4 : Int32) = 2 by decide), if_neg (show ¬ (4 : Int32) = 3 by decide), if_neg (show ¬ (4 : Int32) = 3 by decide), if_neg (show ¬ (4 : Int32) = 0 by decide), h28, s28.1]
    unfold F_R_work_k6
    generalize F_R_steer ((va_up K.1 113 (K.1 113 + 1)), (va_up K.2.1 104 (N.1 28).toInt64), K.2.2) = u4 at s28
    unfold F_R_work_k7 F_Control_segmentIsThrough_k5
    rw [hw, k0, if_neg (show ¬ (4 : Int32) = 0 by decide), if_neg (show ¬ (4 : Int32) = 1 by decide), if_neg (show ¬ (4 : Int32) = 2 by decide), n8, h27, h13]
    have c1 : (0 < lg_cmp (K.1 124).toInt64 (K.2.2.1 27 w.toNatClampNeg).toInt64) ↔ K.2.2.1 27 w.toNatClampNeg < K.1 124 := by
      rw [lg_cmp_gt, Int64.lt_iff_toInt_lt, n_w, n_w, Int32.lt_iff_toInt_lt]
    by_cases q : K.2.2.1 27 w.toNatClampNeg < K.1 124
    · rw [if_pos q, if_pos (c1.mpr q)]
      exact ⟨rfl, rfl, rfl, rfl, rfl, hg, s28.2.1, s28.2.2, fun _ g => absurd g ng⟩
    · rw [if_neg q, if_neg (fun g => q (c1.mp g))]
      exact ⟨rfl, rfl, rfl, rfl, rfl, hg, s28.2.1, s28.2.2, fun _ g => absurd g ng⟩


