theorem thr_1 (M : XM) (j : Int32) (h : ¬ j = 0) (a2 : Int32) : F_R_throwing M j a2 = (1, 1) := by
  simp [F_R_throwing, F_R_throwing_j1, F_R_throwing_k2, h]
theorem thr_0 (M : XM) : F_R_throwing M 0 0 = (0, 0) := by
  simp [F_R_throwing, F_R_throwing_j1, F_R_throwing_k2]
theorem thr_2 (M : XM) (a2 : Int32) (h : ¬ a2 = 0) : F_R_throwing M 0 a2 = (1, 2) := by
  simp [F_R_throwing, F_R_throwing_j1, F_R_throwing_k2, h]
theorem wi_put (M : XM) (a : Int32) (h : ¬ a = -1) : F_U_within M a (-1) 3 = F_Rotors_exists M a := by
  have h1 : ¬ a.toInt = -1 := fun q => h (Int32.toInt_inj.mp q)
  simp only [F_Rotors_exists, F_Rotors_exists_k1, F_U_within, Int32.lt_iff_toInt_lt]
  have e1 : ((-1 : Int32)).toInt = -1 := by decide
  have e2 : ((0 : Int32)).toInt = 0 := by decide
  rw [e1, e2]
  have e3 : (a.toInt < -1) ↔ (a.toInt < 0) := by omega
  simp only [e3]
theorem ok1 (M : XM) (a1 : Int32) : xOK1 M a1 := by
  unfold xOK1 F_R_thrown G_L_put T_U_put F_R_put
  rw [xin_w M M a1 (-1) 3 (-1) 3 (by decide) (by decide)]
  by_cases h : a1 = -1
  · subst h
    rw [if_pos rfl, if_pos rfl, show F_U_within M (-1) (-1) 3 = 1 by rfl]
    rfl
  · rw [if_neg h, wi_put M a1 h]
    generalize F_Rotors_exists M a1 = z
    by_cases hz : z = 0
    · subst hz; rfl
    · simp [T_U_put_k1, F_R_put_k1, F_R_put_j2, F_R_put_k3, F_R_put_k4, hz, thr_0, va_up]
theorem ok7 (M : XM) (a1 : Int32) : xOK7 M a1 := by
  unfold xOK7 F_R_thrown G_L_shake T_U_shake F_R_shake
  rw [xin_w M M a1 0 100000 0 100000 (by decide) (by decide)]
  generalize F_U_within M a1 0 100000 = z
  by_cases hz : z = 0
  · subst hz; rfl
  · simp [T_U_shake_k1, F_R_shake_k1, F_R_shake_j2, F_R_shake_k3, F_R_shake_k4, hz, thr_0, va_up]
theorem ok8 (M : XM) (a1 : Int32) : xOK8 M a1 := by
  unfold xOK8 F_R_thrown G_L_chamber T_U_chamber F_R_chamber
  rw [xin_w M M a1 (-10000) 10000 (-10000) 10000 (by decide) (by decide)]
  generalize F_U_within M a1 (-10000) 10000 = z
  by_cases hz : z = 0
  · subst hz; rfl
  · simp [T_U_chamber_k1, F_R_chamber_k1, F_R_chamber_j2, F_R_chamber_k3, F_R_chamber_k4, hz, thr_0, va_up]
theorem ok9 (M : XM) (a1 a2 : Int32) : xOK9 M a1 a2 := by
  unfold xOK9 F_R_thrown G_L_fail T_U_fail F_R_fail T_U_fail_k1 F_R_fail_k1 F_R_fail_j3
  rw [xin_w M M a1 0 1 0 1 (by decide) (by decide), xin_w M M a2 (-1) 1000000 (-1) 1000000 (by decide) (by decide)]
  generalize F_U_within M a1 0 1 = z
  generalize F_U_within M a2 (-1) 1000000 = y
  by_cases hz : z = 0
  · subst hz; rfl
  · by_cases hy : y = 0
    · subst hy; simp [hz, T_U_fail_k2, F_R_fail_k2, F_R_fail_k4, F_R_fail_k5, thr_1, va_up]
    · simp [hz, hy, T_U_fail_k2, F_R_fail_k2, F_R_fail_k4, F_R_fail_k5, thr_0, va_up]
      by_cases h0 : a1 = 0 <;> simp [h0]
theorem ok10 (M : XM) (a1 : Int32) (h : M.1 12 = M.1 109) : xOK10 M a1 := by
  unfold xOK10 F_R_thrown G_L_power T_U_power F_R_power F_R_power_j1
  rw [h]
  generalize xnz a1 = x
  by_cases hx : M.1 109 = x
  · rw [if_pos hx, if_pos hx.symm]; rfl
  · rw [if_neg hx, if_neg (fun q => hx q.symm)]
    simp [F_R_power_k2, F_R_power_k3, thr_0]
    split <;> try split
    all_goals simp [va_up]
theorem ok3 (M : XM) (h : M.1 12 = M.1 109) (h2 : M.1 14 = M.1 110) (h3 : M.1 1 = M.1 102) (h4 : M.1 8 = M.1 121) (h5 : M.1 9 = M.1 122) : xOK3 M := by
  unfold xOK3 F_R_thrown G_L_start T_U_start F_R_start F_R_start_j2 F_Control_takesOrders T_U_start_k1 F_R_isLocked F_Lid_locked
  rw [h, h2, h3, h4, h5]
  by_cases q1 : M.1 109 = 0 <;> by_cases q2 : M.1 110 = 0 <;> by_cases q3 : M.1 102 = 0 <;> by_cases q4 : M.1 121 = 0 <;> by_cases q5 : M.1 122 = 0 <;> simp [q1, q2, q3, q4, q5, T_U_start_k2, F_R_start_k1, F_R_start_k3, F_R_start_k4, thr_0, thr_1, va_up]
theorem ok4 (M : XM) (h : M.1 12 = M.1 109) (h2 : M.1 14 = M.1 110) : xOK4 M := by
  unfold xOK4 F_R_thrown G_L_stop T_U_stop F_R_stop F_R_stop_j1 F_Control_takesOrders T_U_stop_k1
  rw [h, h2]
  by_cases q1 : M.1 109 = 0 <;> by_cases q2 : M.1 110 = 1 <;> simp [q1, q2, F_R_stop_k2, F_R_stop_k3, thr_0, thr_1, va_up]
theorem ok5 (M : XM) (h : M.1 12 = M.1 109) (h2 : M.1 14 = M.1 110) (h3 : M.1 20 = M.1 118) : xOK5 M := by
  unfold xOK5 F_R_thrown G_L_open T_U_open F_R_open F_R_open_j2 F_Control_takesOrders T_U_open_k1 F_R_atRest F_Watch_atRest
  rw [h, h2, h3]
  by_cases q1 : M.1 109 = 0 <;> by_cases q2 : M.1 110 = 0 <;> by_cases q3 : M.1 118 < 25 <;> simp [q1, q2, q3, T_U_open_k2, F_R_open_k1, F_R_open_k3, F_R_open_k4, thr_0, thr_1, va_up]
theorem ok6 (M : XM) (a1 a2 : Int32) : xOK6 M a1 a2 := trivial
theorem ok13 (M : XM) (h : M.2.1 1 = M.2.1 105) : xOK13 M := h
theorem ok15 (M : XM) (h : M.2.1 0 = M.2.1 100) : xOK15 M := h

theorem seg_al (M : XM) (a1 a2 a3 : Int32) (h : ¬ a1 = -1) : F_R_isSegment M a1 a2 a3 = F_Program_allowed M a1 a2 a3 := by
  simp only [F_R_isSegment, F_Program_allowed, F_R_isSegment_k1, F_R_isSegment_k2, F_R_isSegment_k3, F_R_isSegment_k4, F_R_isSegment_k5, F_R_isSegment_k6, F_R_isSegment_k7, F_Program_allowed_k1, F_Program_allowed_k2, F_Program_allowed_k3, F_Program_allowed_k4, F_Program_allowed_k5, F_Program_allowed_k6, F_Program_allowed_k7]
  rw [xin_w M M a2 0 20000 0 20000 (by decide) (by decide), xin_w M M a3 1 500 1 500 (by decide) (by decide), xin_w M M a2 1 100000 1 100000 (by decide) (by decide), xin_w M M a2 1 1000000 1 1000000 (by decide) (by decide), xin_w M M a3 1 9 1 9 (by decide) (by decide), xin_w M M a2 (-2000) 4000 (-2000) 4000 (by decide) (by decide), if_neg h]
theorem al_ge (M : XM) (a1 a2 a3 : Int32) (h : ¬ F_Program_allowed M a1 a2 a3 = 0) : 0 ≤ a1 ∧ ¬ a1 = -1 := by
  unfold F_Program_allowed at h
  by_cases h0 : a1 = 0
  · subst h0; decide
  by_cases h1 : a1 = 1
  · subst h1; decide
  by_cases h2 : a1 = 2
  · subst h2; decide
  by_cases h3 : a1 = 3
  · subst h3; decide
  by_cases h4 : a1 = 4
  · subst h4; decide
  simp [h0, h1, h2, h3, h4] at h
theorem not_lt_32 {x : Int32} (h : 0 ≤ x) : ¬ x < 0 := by
  rw [Int32.lt_iff_toInt_lt]; rw [Int32.le_iff_toInt_le] at h; omega
theorem ok2 (M : XM) (a1 a2 a3 : Int32) (h : M.1 12 = M.1 109) (h2 : M.1 14 = M.1 110) (h3 : M.1 1 = M.1 102) (h4 : 0 ≤ M.1 102) (h5 : M.1 102 ≤ 12) : xOK2 M a1 a2 a3 := by
  have e5 : (M.1 102 < 12) ↔ ¬ (M.1 102 = 12) := by
    rw [Int32.lt_iff_toInt_lt, ← Int32.toInt_inj]
    rw [Int32.le_iff_toInt_le] at h5
    omega
  refine ⟨by rw [h3]; exact h4, h4, h5, ?_⟩
  unfold F_R_thrown G_L_segment T_U_segment F_R_segment F_U_segment F_Control_takesOrders
  by_cases g : a1 = -1
  · subst g
    rw [show F_R_isSegment M (-1) a2 a3 = 1 by rfl, if_pos rfl, if_pos rfl, h, h2]
    by_cases q1 : M.1 109 = 0 <;> by_cases q2 : M.1 110 = 0 <;> simp [q1, q2, T_U_segment_k1, F_U_segment_k1, F_R_segment_k1, F_R_segment_j2, F_R_segment_k3, F_R_segment_j4, F_R_segment_k5, F_R_segment_k6, thr_0, thr_2, va_up, vp_updL, show ¬ (0 : Int32) ≤ -1 by decide, show (-1 : Int32) < 0 by decide]
  · rw [seg_al M a1 a2 a3 g, if_neg g, if_neg g]
    by_cases z : F_Program_allowed M a1 a2 a3 = 0
    · rw [z]
      simp [T_U_segment_k2, F_R_segment_k1, F_R_segment_j2, F_R_segment_k3, F_R_segment_j4, F_R_segment_k5, F_R_segment_k6, thr_1, va_up]
    · have hg := al_ge M a1 a2 a3 z
      have hn : ¬ a1 < 0 := not_lt_32 hg.1
      generalize F_Program_allowed M a1 a2 a3 = y at z
      by_cases q1 : M.1 109 = 0 <;> by_cases q2 : M.1 110 = 0 <;> by_cases q3 : M.1 102 = 12 <;> simp [q1, q2, q3, z, hn, hg.1, e5, h, h2, h3, F_Control_takesOrders, T_U_segment_k2, T_U_segment_k3, T_U_segment_k4, F_Program_full, F_U_segment_k2, F_U_segment_k3, F_U_segment_k4, F_U_segment_k5, F_Program_add, F_Program_add_k1, F_R_segment_k1, F_R_segment_j2, F_R_segment_k3, F_R_segment_j4, F_R_segment_k5, F_R_segment_k6, thr_0, thr_2, va_up, vp_updL]
theorem rot_al (M : XM) (a1 a2 a3 a4 a5 : Int32) : F_R_rotor_j6 M a1 a2 a3 a4 a5 (F_R_in M a1.toInt64 0 3) = (if F_Rotors_allowed M a1 a2 a3 a4 a5 = 0 then 1 else 0) := by
  simp only [F_R_rotor_j6, F_R_rotor_k2, F_R_rotor_k3, F_R_rotor_k4, F_R_rotor_k5, F_Rotors_allowed, F_Rotors_allowed_k1, F_Rotors_allowed_k2, F_Rotors_allowed_k3, F_Rotors_allowed_k4, F_Rotors_allowed_k5, F_Rotors_exists, F_Rotors_exists_k1]
  rw [xin_w M M a1 0 3 0 3 (by decide) (by decide), xin_w M M a2 0 255 0 255 (by decide) (by decide), xin_w M M a3 10 300 10 300 (by decide) (by decide), xin_w M M a4 100 20000 100 20000 (by decide) (by decide), xin_w M M a5 1 1000 1 1000 (by decide) (by decide)]
  by_cases h1 : F_U_within M a1 0 3 = 0 <;> by_cases h2 : F_U_within M a2 0 255 = 0 <;> by_cases h3 : F_U_within M a3 10 300 = 0 <;> by_cases h4 : F_U_within M a4 100 20000 = 0 <;> by_cases h5 : F_U_within M a5 1 1000 = 0 <;> simp [h1, h2, h3, h4, h5]
theorem wi_iff (M : XM) (x a b : Int32) : ¬ F_U_within M x a b = 0 ↔ a.toInt ≤ x.toInt ∧ x.toInt ≤ b.toInt := by
  unfold F_U_within
  simp only [Int32.lt_iff_toInt_lt]
  by_cases h1 : x.toInt < a.toInt
  · simp [h1]; omega
  · by_cases h2 : b.toInt < x.toInt
    · simp [h1, h2]
    · simp [h1, h2]; omega
theorem al_sp (M : XM) (a1 a2 a3 a4 a5 : Int32) (h : ¬ F_Rotors_allowed M a1 a2 a3 a4 a5 = 0) : (0 ≤ a1.toInt ∧ a1.toInt ≤ 3) ∧ (0 ≤ a2.toInt ∧ a2.toInt ≤ 255) ∧ (10 ≤ a3.toInt ∧ a3.toInt ≤ 300) ∧ (100 ≤ a4.toInt ∧ a4.toInt ≤ 20000) ∧ (1 ≤ a5.toInt ∧ a5.toInt ≤ 1000) := by
  simp only [F_Rotors_allowed, F_Rotors_allowed_k1, F_Rotors_allowed_k2, F_Rotors_allowed_k3, F_Rotors_allowed_k4, F_Rotors_allowed_k5, F_Rotors_exists, F_Rotors_exists_k1] at h
  have g1 := wi_iff M a1 0 3
  have g2 := wi_iff M a2 0 255
  have g3 := wi_iff M a3 10 300
  have g4 := wi_iff M a4 100 20000
  have g5 := wi_iff M a5 1 1000
  by_cases h1 : F_U_within M a1 0 3 = 0
  · simp [h1] at h
  by_cases h2 : F_U_within M a2 0 255 = 0
  · simp [h1, h2] at h
  by_cases h3 : F_U_within M a3 10 300 = 0
  · simp [h1, h2, h3] at h
  by_cases h4 : F_U_within M a4 100 20000 = 0
  · simp [h1, h2, h3, h4] at h
  by_cases h5 : F_U_within M a5 1 1000 = 0
  · simp [h1, h2, h3, h4, h5] at h
  exact ⟨g1.mp h1, g2.mp h2, g3.mp h3, g4.mp h4, g5.mp h5⟩
/-- the rotors told: the class's rows against the reference's -/
def xRT (M : XM) : Prop := (∀ k, k < 4 → (M.2.2.1 21 k = 0 ∧ M.2.2.1 2 k = -1 ∧ M.2.2.1 5 k = 100) ∨ (¬ M.2.2.1 21 k = 0 ∧ 0 ≤ (M.2.2.1 2 k).toInt ∧ M.2.2.1 2 k = M.2.2.1 22 k ∧ M.2.2.1 3 k = M.2.2.1 23 k ∧ M.2.2.1 4 k = M.2.2.1 24 k ∧ M.2.2.1 5 k = M.2.2.1 25 k ∧ (10 ≤ (M.2.2.1 23 k).toInt ∧ (M.2.2.1 23 k).toInt ≤ 300) ∧ (100 ≤ (M.2.2.1 24 k).toInt ∧ (M.2.2.1 24 k).toInt ≤ 20000) ∧ (1 ≤ (M.2.2.1 25 k).toInt ∧ (M.2.2.1 25 k).toInt ≤ 1000))) ∧ (∀ j k, j < 4 → k < 4 → ¬ M.2.2.1 2 j = -1 → M.2.2.1 2 j = M.2.2.1 2 k → j = k)
theorem xRT_pat {M : XM} (h : xRT M) {k : Nat} (hk : k < 4) {p : Int32} (hp : ¬ p = -1) : M.2.2.1 2 k = p ↔ (¬ M.2.2.1 21 k = 0 ∧ M.2.2.1 22 k = p) := by
  rcases h.1 k hk with ⟨h1, h2, -⟩ | ⟨h1, h2, h3, -⟩
  · rw [h1, h2]
    constructor
    · intro q; exact absurd q.symm hp
    · intro q; exact absurd rfl q.1
  · rw [h3]
    exact ⟨fun q => ⟨h1, q⟩, fun q => q.2⟩
theorem i32_03 {a : Int32} (h : 0 ≤ a.toInt ∧ a.toInt ≤ 3) : a = 0 ∨ a = 1 ∨ a = 2 ∨ a = 3 := by
  simp only [← Int32.toInt_inj]
  have e0 : (0 : Int32).toInt = 0 := by decide
  have e1 : (1 : Int32).toInt = 1 := by decide
  have e2 : (2 : Int32).toInt = 2 := by decide
  have e3 : (3 : Int32).toInt = 3 := by decide
  rw [e0, e1, e2, e3]
  omega
theorem ok0 (M : XM) (a1 a2 a3 a4 a5 : Int32) (h : M.1 12 = M.1 109) (h2 : M.1 14 = M.1 110) (hT : xRT M) : xOK0 M a1 a2 a3 a4 a5 := by
  unfold xOK0 F_R_thrown G_L_rotor T_U_rotor F_R_rotor F_R_rotor_k1
  rw [rot_al]
  by_cases z : F_Rotors_allowed M a1 a2 a3 a4 a5 = 0
  · rw [z, if_pos rfl]
    simp [T_U_rotor_k1, F_R_rotor_k7, F_R_rotor_j16, F_R_rotor_k17, F_R_rotor_j18, F_R_rotor_k19, F_R_rotor_k20, thr_1, va_up]
  · rw [if_neg z]
    obtain ⟨k1, k2, -⟩ := al_sp _ _ _ _ _ _ z
    have hp : ¬ a2 = -1 := by
      intro q
      rw [q] at k2
      exact absurd k2.1 (by decide)
    have p0 := xRT_pat hT (k := 0) (by decide) hp
    have p1 := xRT_pat hT (k := 1) (by decide) hp
    have p2 := xRT_pat hT (k := 2) (by decide) hp
    have p3 := xRT_pat hT (k := 3) (by decide) hp
    have d : ∀ j k, j < 4 → k < 4 → M.2.2.1 2 j = a2 → M.2.2.1 2 k = a2 → j = k := fun j k hj hk e1 e2 => hT.2 j k hj hk (by rw [e1]; exact hp) (by rw [e1, e2])
    have d01 := d 0 1 (by decide) (by decide)
    have d02 := d 0 2 (by decide) (by decide)
    have d03 := d 0 3 (by decide) (by decide)
    have d12 := d 1 2 (by decide) (by decide)
    have d13 := d 1 3 (by decide) (by decide)
    have d23 := d 2 3 (by decide) (by decide)
    have hA : (F_R_rotor_j16 M a1 a2 a3 a4 a5 (F_R_in M a1.toInt64 0 3) 0).2 = F_Rotors_anotherHas M a1 a2 := by
      generalize F_R_in M a1.toInt64 0 3 = zz
      have j0 : F_R_rotor_j8 M a1 a2 a3 a4 a5 zz 0 = if ¬ (0 : Int32) = a1 ∧ M.2.2.1 2 0 = a2 then 1 else 0 := by
        simp only [p0]; rw [F_R_rotor_j8]; grind
      have j1 : ∀ y, F_R_rotor_j10 M a1 a2 a3 a4 a5 zz 0 y = if ¬ (1 : Int32) = a1 ∧ M.2.2.1 2 1 = a2 then 1 else 0 := by
        intro y; simp only [p1]; rw [F_R_rotor_j10]; grind
      have j2 : ∀ y w, F_R_rotor_j12 M a1 a2 a3 a4 a5 zz 0 y w = if ¬ (2 : Int32) = a1 ∧ M.2.2.1 2 2 = a2 then 1 else 0 := by
        intro y w; simp only [p2]; rw [F_R_rotor_j12]; grind
      have j3 : ∀ y w v, F_R_rotor_j14 M a1 a2 a3 a4 a5 zz 0 y w v = if ¬ (3 : Int32) = a1 ∧ M.2.2.1 2 3 = a2 then 1 else 0 := by
        intro y w v; simp only [p3]; rw [F_R_rotor_j14]; grind
      rw [F_R_rotor_j16, if_pos rfl, j0, F_R_rotor_k9, j1, F_R_rotor_k11, j2, F_R_rotor_k13, j3, F_R_rotor_k15, F_Rotors_anotherHas, F_Rotors_withPattern, if_neg hp, F_Rotors_anotherHas_k1]
      clear j0 j1 j2 j3 p0 p1 p2 p3
      rcases i32_03 k1 with rfl | rfl | rfl | rfl <;>
      by_cases q0 : M.2.2.1 2 0 = a2 <;> by_cases q1 : M.2.2.1 2 1 = a2 <;> by_cases q2 : M.2.2.1 2 2 = a2 <;> by_cases q3 : M.2.2.1 2 3 = a2 <;>
      first
      | (exact absurd (d01 q0 q1) (by decide)) | (exact absurd (d02 q0 q2) (by decide)) | (exact absurd (d03 q0 q3) (by decide)) | (exact absurd (d12 q1 q2) (by decide)) | (exact absurd (d13 q1 q3) (by decide)) | (exact absurd (d23 q2 q3) (by decide))
      | simp [q0, q1, q2, q3]
    unfold T_U_rotor_k1 T_U_rotor_k2 T_U_rotor_k3 F_R_rotor_k7 F_R_rotor_k17 F_R_rotor_j18 F_R_rotor_k19 F_Control_takesOrders
    rw [hA, if_neg z, h, h2]
    generalize F_Rotors_anotherHas M a1 a2 = y
    by_cases q : y = 0 <;> by_cases q1 : M.1 109 = 0 <;> by_cases q2 : M.1 110 = 0 <;> simp [q, q1, q2, F_R_rotor_k20, thr_0, thr_1, thr_2, va_up]

theorem i32_010 {a : Int32} (h : 0 ≤ a.toInt ∧ a.toInt ≤ 10) : a = 0 ∨ a = 1 ∨ a = 2 ∨ a = 3 ∨ a = 4 ∨ a = 5 ∨ a = 6 ∨ a = 7 ∨ a = 8 ∨ a = 9 ∨ a = 10 := by
  simp only [← Int32.toInt_inj]
  rw [show (0 : Int32).toInt = 0 by decide, show (1 : Int32).toInt = 1 by decide, show (2 : Int32).toInt = 2 by decide, show (3 : Int32).toInt = 3 by decide, show (4 : Int32).toInt = 4 by decide, show (5 : Int32).toInt = 5 by decide, show (6 : Int32).toInt = 6 by decide, show (7 : Int32).toInt = 7 by decide, show (8 : Int32).toInt = 8 by decide, show (9 : Int32).toInt = 9 by decide, show (10 : Int32).toInt = 10 by decide]
  omega
theorem look_T (M : XM) (a1 : Int32) : T_U_look M a1 = if F_U_within M a1 0 10 = 0 then 1 else 0 := by
  by_cases h : F_U_within M a1 0 10 = 0
  · rw [if_pos h]
    unfold T_U_look
    have g := wi_iff M a1 0 10
    have n : ∀ x : Int32, ¬ F_U_within M x 0 10 = 0 → ¬ a1 = x := fun x hx q => hx (q ▸ h)
    have w : ∀ x : Int32, (0 : Int32).toInt ≤ x.toInt ∧ x.toInt ≤ (10 : Int32).toInt → ¬ a1 = x := fun x hx => n x ((wi_iff M x 0 10).mpr hx)
    rw [if_neg (w 0 (by decide)), if_neg (w 1 (by decide)), if_neg (w 2 (by decide)), if_neg (w 3 (by decide)), if_neg (w 4 (by decide)), if_neg (w 5 (by decide)), if_neg (w 6 (by decide)), if_neg (w 7 (by decide)), if_neg (w 8 (by decide)), if_neg (w 9 (by decide)), if_neg (w 10 (by decide))]
  · rw [if_neg h]
    rcases i32_010 ((wi_iff M a1 0 10).mp h) with rfl | rfl | rfl | rfl | rfl | rfl | rfl | rfl | rfl | rfl | rfl <;> rfl
theorem ok12 (M : XM) (a1 : Int32) (h0 : M.1 14 = M.1 110) (h1 : M.1 15 = M.1 111) (h2 : M.1 110 = 1 → M.1 26 = M.1 112) (h3 : M.1 16 = M.1 103) (h4 : M.1 17 = M.1 104) (h5 : M.1 18 = M.1 105) (h6 : M.1 4 = (M.2.1 101).toInt32) (h7 : M.1 5 = (M.2.1 102).toInt32) (h8 : M.1 23 = M.1 116) (h9 : ¬ M.1 109 = 0) (h9' : M.1 20 = M.1 118) (h10 : M.1 28 = (M.2.1 104).toInt32) : xOK12 M a1 := by
  unfold xOK12 F_R_thrown G_L_look F_R_look
  rw [look_T, xin_w M M a1 0 10 0 10 (by decide) (by decide)]
  by_cases h : F_U_within M a1 0 10 = 0
  · rw [if_pos h, h]
    simp [F_R_look_k1, F_R_look_j2, F_R_look_k3, F_R_look_k4, thr_1, va_up]
  · rw [if_neg h]
    have e : F_R_look_k1 M a1 (F_U_within M a1 0 10) = F_R_look_k4 M a1 (F_U_within M a1 0 10) 0 (0, 0) := by
      unfold F_R_look_k1 F_R_look_j2
      rw [if_neg h, F_R_look_k3, thr_0]
    rw [e]
    have hr : F_R_atRest ((va_up M.1 100 0), M.2) = F_Watch_atRest M := by
      simp [F_R_atRest, F_Watch_atRest, va_up, h9, h9']
    have ha := i32_010 ((wi_iff M a1 0 10).mp h)
    generalize F_U_within M a1 0 10 = z
    rcases ha with rfl | rfl | rfl | rfl | rfl | rfl | rfl | rfl | rfl | rfl | rfl
    · simp [F_R_look_k4, F_U_look, va_up, vp_updL, h0]
    · simp [F_R_look_k4, F_U_look, va_up, vp_updL, h1]
    · by_cases q : M.1 110 = 1
      · simp [F_R_look_k4, F_U_look, va_up, vp_updL, h0, q, h2 q]
      · simp [F_R_look_k4, F_U_look, va_up, vp_updL, h0, q]
    · simp [F_R_look_k4, F_U_look, va_up, vp_updL, h3]
    · simp [F_R_look_k4, F_U_look, va_up, vp_updL, h4]
    · by_cases q : M.1 105 = 0 <;> simp [F_R_look_k4, F_U_look, va_up, vp_updL, h5, q]
    · simp [F_R_look_k4, F_U_look, va_up, vp_updL, h6]
    · simp [F_R_look_k4, F_U_look, va_up, vp_updL, h7]
    · simp [F_R_look_k4, F_U_look, va_up, vp_updL, h8]
    · simp only [F_R_look_k4, F_U_look, F_U_look_k1, F_R_look_k5, hr]
      by_cases q : F_Watch_atRest M = 0 <;> simp [q, va_up, vp_updL]
    · simp [F_R_look_k4, F_U_look, va_up, vp_updL, h10]
theorem ok14 (M : XM) (h0 : M.1 116 < 4) (h1 : M.1 23 = M.1 116) (h2 : M.2.1 103 = (M.1 6).toInt64) (h3 : 0 ≤ M.1 116 → M.2.2.1 3 (M.1 116).toNatClampNeg = M.2.2.1 23 (M.1 116).toNatClampNeg) : xOK14 M := by
  refine ⟨h0, ?_⟩
  have w : F_U_within M (M.1 116) 0 3 = if 0 ≤ M.1 116 then 1 else 0 := by
    have g := h0
    rw [Int32.lt_iff_toInt_lt, show (4 : Int32).toInt = 4 by decide] at g
    simp only [F_U_within, Int32.lt_iff_toInt_lt, Int32.le_iff_toInt_le, show (0 : Int32).toInt = 0 by decide, show (3 : Int32).toInt = 3 by decide]
    by_cases q : 0 ≤ (M.1 116).toInt
    · rw [if_neg (by omega), if_neg (by omega), if_pos q]
    · rw [if_pos (by omega), if_neg q]
  unfold F_U_force F_U_force_k1 F_Rotors_radiusOf F_Rotors_radiusOf_k1 F_Rotors_exists F_Rotors_exists_k1 F_R_force
  rw [h1, h2, w]
  by_cases q : 0 ≤ M.1 116
  · rw [if_pos q, if_neg (by decide), if_pos q, h3 q]
  · rw [if_neg q, if_pos rfl, if_neg q]
    rw [show (1118 * Int32.toInt64 0 : Int64) = 0 by decide, Int64.zero_mul, Int64.zero_mul]
    decide
theorem fm_pos (M : XM) (x : Int32) (h : 0 ≤ x) : F_Math_floorMod M x 16 = x - x / 16 * 16 := by
  rw [F_Math_floorMod, if_pos ((xsg x).mpr h)]
theorem rec_keeps (M : XM) (a1 : Int32) (h1 : M.1 11 = M.1 125) (h2 : 0 ≤ (M.1 125).toInt) : F_Records_keeps M a1 = (if F_R_in M a1.toInt64 ((M.1 125) - 16).toInt64 ((M.1 125) - 1).toInt64 = 0 then 0 else (if a1 < 0 then 0 else 1)) := by
  rw [xin_w M M a1 (M.1 125 - 16) (M.1 125 - 1) _ _ rfl rfl]
  have h3 := (M.1 125).toInt_lt
  have e1 : (M.1 125 - 16).toInt = (M.1 125).toInt - 16 := by
    rw [Int32.toInt_sub]; simp; rw [Int.bmod_eq_of_le_mul_two] <;> omega
  have e2 : (M.1 125 - 1).toInt = (M.1 125).toInt - 1 := by
    rw [Int32.toInt_sub]; simp; rw [Int.bmod_eq_of_le_mul_two] <;> omega
  have g := wi_iff M a1 (M.1 125 - 16) (M.1 125 - 1)
  rw [e1, e2] at g
  unfold F_Records_keeps
  rw [h1]
  simp only [Int32.lt_iff_toInt_lt, Int32.le_iff_toInt_le, e1, show (0 : Int32).toInt = 0 by decide]
  by_cases q : F_U_within M a1 (M.1 125 - 16) (M.1 125 - 1) = 0
  · rw [if_pos q]
    have : ¬ ((M.1 125).toInt - 16 ≤ a1.toInt ∧ a1.toInt ≤ (M.1 125).toInt - 1) := fun r => (g.mpr r) q
    by_cases q1 : a1.toInt < 0
    · rw [if_pos q1]
    · rw [if_neg q1]
      by_cases q2 : (M.1 125).toInt ≤ a1.toInt
      · rw [if_pos q2]
      · rw [if_neg q2, if_pos (by omega)]
  · rw [if_neg q]
    have := g.mp q
    by_cases q1 : a1.toInt < 0
    · rw [if_pos q1, if_pos q1]
    · rw [if_neg q1, if_neg q1, if_neg (by omega), if_neg (by omega)]
theorem keeps_01 (M : XM) (a1 : Int32) : F_Records_keeps M a1 = 0 ∨ F_Records_keeps M a1 = 1 ∧ 0 ≤ a1 := by
  unfold F_Records_keeps
  by_cases h : a1 < 0
  · left; rw [if_pos h]
  · have h' : 0 ≤ a1 := by rw [Int32.le_iff_toInt_le]; rw [Int32.lt_iff_toInt_lt] at h; omega
    rw [if_neg h]
    by_cases h2 : M.1 11 ≤ a1
    · left; rw [if_pos h2]
    · rw [if_neg h2]
      by_cases h3 : a1 < M.1 11 - 16
      · left; rw [if_pos h3]
      · right; rw [if_neg h3]; exact ⟨rfl, h'⟩
theorem ok16 (M : XM) (a1 a2 : Int32) (h1 : M.1 11 = M.1 125) (h2 : 0 ≤ (M.1 125).toInt) (h3 : ∀ k : Nat, k < 16 → (M.2.2.1 14 k).toInt64 = M.2.2.2 29 k ∧ M.2.2.2 15 k = M.2.2.2 30 k ∧ (M.2.2.1 16 k).toInt64 = M.2.2.2 31 k) : xOK16 M a1 a2 := by
  unfold xOK16 F_R_thrown G_L_record T_U_record F_R_record T_U_record_k1
  rw [xin_w M M a2 0 2 0 2 (by decide) (by decide)]
  by_cases h : F_U_within M a2 0 2 = 0
  · rw [h]
    simp [F_R_record_k1, F_R_record_j2, F_R_record_k3, F_R_record_k6, F_R_record_k8, F_R_record_k9, thr_1, va_up]
  · have e : F_R_record_k1 M a1 a2 (F_U_within M a2 0 2) = F_R_record_k3 M a1 a2 (F_U_within M a2 0 2) 0 := by
      unfold F_R_record_k1 F_R_record_j2
      rw [if_neg h]
    rw [e, if_neg h]
    have e3 : F_U_record M a1 a2 = (if a1 = (-1) then ((M.1 11)).toInt64 else (F_U_record_k2 M a1 a2 (F_U_within M a2 0 2) (F_Records_keeps M a1))) := by
      unfold F_U_record F_U_record_k1
      rw [if_neg h]
    rw [e3]
    have e4 : F_R_record_j5 M a1 a2 (F_U_within M a2 0 2) 0 = (if a1 = -1 then 1 else F_Records_keeps M a1) := by
      unfold F_R_record_j5 F_R_record_k4
      rw [← rec_keeps M a1 h1 h2]
    unfold F_R_record_k3
    rw [e4]
    generalize F_U_within M a2 0 2 = z at *
    by_cases g : a1 = -1
    · subst g
      simp [F_R_record_k6, F_R_record_j7, F_R_record_k8, F_R_record_k9, thr_0, va_up, vp_updL, show ¬ (0 : Int32) ≤ -1 by decide, h1]
    · rw [if_neg g, if_neg g, if_neg g]
      rcases keeps_01 M a1 with k | ⟨k, ka⟩
      · rw [k]
        simp [T_U_record_k2, F_R_record_k6, F_R_record_j7, F_R_record_k8, F_R_record_k9, thr_2, va_up]
      · rw [k]
        have hi := vp_in_iff.mp (xrm16 ka)
        have hc : (a1 - a1 / 16 * 16).toNatClampNeg < 16 := by
          have : (a1 - a1 / 16 * 16).toNatClampNeg = (a1 - a1 / 16 * 16).toInt.toNat := rfl
          omega
        have r := h3 _ hc
        by_cases q0 : a2 = 0
        · subst q0
          simp [T_U_record_k2, F_U_record_k2, F_U_record_k3, F_Records_entry, F_Records_entry_k1, fm_pos M a1 ka, F_R_record_k6, F_R_record_j7, F_R_record_k8, F_R_record_k9, thr_0, va_up, vp_updL, ka, r.1]
        · by_cases q1 : a2 = 1
          · subst q1
            simp [T_U_record_k2, F_U_record_k2, F_U_record_k3, F_Records_entry, F_Records_entry_k1, fm_pos M a1 ka, F_R_record_k6, F_R_record_j7, F_R_record_k8, F_R_record_k9, thr_0, va_up, vp_updL, ka, r.2.1]
          · simp [q0, q1, T_U_record_k2, F_U_record_k2, F_U_record_k3, F_Records_entry, F_Records_entry_k1, fm_pos M a1 ka, F_R_record_k6, F_R_record_j7, F_R_record_k8, F_R_record_k9, thr_0, va_up, vp_updL, ka, r.2.2]


