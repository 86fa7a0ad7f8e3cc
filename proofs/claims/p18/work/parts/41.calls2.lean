set_option maxHeartbeats 4000000 in
set_option maxRecDepth 100000 in
theorem nx0 {T : Nat} {M : XM} (h : vRel T M) (a1 a2 a3 a4 a5 : Int32) : vRel T (xnx0 M a1 a2 a3 a4 a5) := by
  have hok := ok0 M a1 a2 a3 a4 a5 h.1.2.2.2.2.2.2.2.2.2.2.1 h.2.1 h.1.2.2.2.2.2.2.2.2.2.2.2.2.2.1
  have hR := h
  obtain ⟨⟨a0, a0r, c1, c1r, c2, c2r, c3, c3r, a8, a9, a12, a13, a19, aT, aP⟩, b1, b2, b3, b4, ⟨b5, b5d⟩, b6, b7, b8, b9, b10, b11, b12, b13, b14, b15⟩ := h
  have thr : ∀ (p : Int32 × Int32) (z j2 j6 : Int32) (j4 : Int32 × Int32), ¬ p.1 = 0 → vRel T (xmix M (ap_R_rotor M (F_R_rotor_k20 M a1 a2 a3 a4 a5 z j2 j4 j6 p))) := by
    intro p z j2 j6 j4 hp
    have e : F_R_rotor_k20 M a1 a2 a3 a4 a5 z j2 j4 j6 p = (p.2, M.2.2.1 21, M.2.2.1 22, M.2.2.1 23, M.2.2.1 24, M.2.2.1 25) := by
      unfold F_R_rotor_k20
      rw [if_neg hp]
    rw [e]
    exact rel_mix (X := M) (Y := ap_R_rotor M (p.2, M.2.2.1 21, M.2.2.1 22, M.2.2.1 23, M.2.2.1 24, M.2.2.1 25)) hR.1 hR.2
  unfold xOK0 F_R_thrown at hok
  unfold xnx0
  have hF : ∃ (z j2 j6 : Int32) (j4 p : Int32 × Int32), F_R_rotor M a1 a2 a3 a4 a5 = F_R_rotor_k20 M a1 a2 a3 a4 a5 z j2 j4 j6 p ∧ (p = (0, 0) ∨ p = (1, 1) ∨ p = (1, 2)) := by
    unfold F_R_rotor F_R_rotor_k1 F_R_rotor_k7 F_R_rotor_k17 F_R_rotor_k19
    refine ⟨_, _, _, _, _, rfl, ?_⟩
    generalize (F_R_rotor_j16 M a1 a2 a3 a4 a5 (F_R_in M a1.toInt64 0 3) (F_R_rotor_j6 M a1 a2 a3 a4 a5 (F_R_in M a1.toInt64 0 3))).2 = x
    generalize F_R_rotor_j18 M a1 a2 a3 a4 a5 (F_R_in M a1.toInt64 0 3) (F_R_rotor_j6 M a1 a2 a3 a4 a5 (F_R_in M a1.toInt64 0 3)) (F_R_rotor_j16 M a1 a2 a3 a4 a5 (F_R_in M a1.toInt64 0 3) (F_R_rotor_j6 M a1 a2 a3 a4 a5 (F_R_in M a1.toInt64 0 3))) = y
    by_cases q : x = 0
    · subst q
      by_cases r : y = 0
      · subst r; exact Or.inl (thr_0 M)
      · exact Or.inr (Or.inr (thr_2 M y r))
    · exact Or.inr (Or.inl (thr_1 M x q y))
  obtain ⟨z, j2, j6, j4, p, hF, hp⟩ := hF
  rw [hF] at hok ⊢
  have hk : (F_R_rotor_k20 M a1 a2 a3 a4 a5 z j2 j4 j6 p).1 = p.2 := by
    unfold F_R_rotor_k20
    by_cases q : p.1 = 0
    · rw [if_pos q]
    · rw [if_neg q]
  have hok : p.2 = (G_L_rotor M a1 a2 a3 a4 a5).1 := hk.symm.trans hok
  unfold G_L_rotor at hok ⊢
  by_cases t0 : T_U_rotor M a1 a2 a3 a4 a5 = 0
  · rw [if_pos t0] at hok ⊢
    have hp0 : p = (0, 0) := by
      rcases hp with rfl | rfl | rfl
      · rfl
      · exact absurd (show (1 : Int32) = 0 from hok) (by decide)
      · exact absurd (show (2 : Int32) = 0 from hok) (by decide)
    subst hp0
    have t1 := t0
    unfold T_U_rotor T_U_rotor_k1 T_U_rotor_k2 T_U_rotor_k3 at t1
    by_cases ha : F_Rotors_allowed M a1 a2 a3 a4 a5 = 0
    · rw [if_pos ha] at t1; exact absurd t1 (by decide)
    rw [if_neg ha] at t1
    by_cases hn : F_Rotors_anotherHas M a1 a2 = 0
    · rw [if_pos hn] at t1
      by_cases ho : F_Control_takesOrders M 0 = 0
      · rw [if_pos ho] at t1; exact absurd t1 (by decide)
      have hst : M.1 110 = 0 := by
        unfold F_Control_takesOrders at ho
        rw [b1] at ho
        by_cases q : M.1 12 = 0
        · rw [if_pos q] at ho; exact absurd rfl ho
        · rw [if_neg q] at ho
          by_cases r : M.1 110 = 0
          · exact r
          · rw [if_neg r] at ho; exact absurd rfl ho
      obtain ⟨k1, k2, k3, k4, k5⟩ := al_sp M a1 a2 a3 a4 a5 ha
      have eU : F_U_rotor M a1 a2 a3 a4 a5 = (upd (M.2.2.1 2) a1.toNatClampNeg a2, upd (M.2.2.1 3) a1.toNatClampNeg a3, upd (M.2.2.1 4) a1.toNatClampNeg a4, upd (M.2.2.1 5) a1.toNatClampNeg a5) := by
        unfold F_U_rotor F_U_rotor_k1 F_U_rotor_k2 F_U_rotor_k3 F_U_rotor_k4 F_Rotors_keep
        rw [if_neg ha, if_pos hn, if_neg ho]
      have eR : F_R_rotor_k20 M a1 a2 a3 a4 a5 z j2 j4 j6 (0, 0) = (0, upd (M.2.2.1 21) a1.toNatClampNeg 1, upd (M.2.2.1 22) a1.toNatClampNeg a2, upd (M.2.2.1 23) a1.toNatClampNeg a3, upd (M.2.2.1 24) a1.toNatClampNeg a4, upd (M.2.2.1 25) a1.toNatClampNeg a5) := by
        unfold F_R_rotor_k20
        rw [if_pos rfl]
      rw [eU, eR]
      have hrd : vRd (ap_R_rotor M (0, upd (M.2.2.1 21) a1.toNatClampNeg 1, upd (M.2.2.1 22) a1.toNatClampNeg a2, upd (M.2.2.1 23) a1.toNatClampNeg a3, upd (M.2.2.1 24) a1.toNatClampNeg a4, upd (M.2.2.1 25) a1.toNatClampNeg a5)) (M.1 116) := by
        rcases b5d with q | ⟨q1, q2⟩
        · exact Or.inl q
        · refine Or.inr ⟨q1, ?_⟩
          show ¬ upd (M.2.2.1 21) a1.toNatClampNeg 1 (M.1 116).toNatClampNeg = 0
          by_cases r : (M.1 116).toNatClampNeg = a1.toNatClampNeg
          · rw [r, up_s]; decide
          · rw [up_n _ _ r]; exact q2
      exact rel_mix (X := ap_U_rotor M (upd (M.2.2.1 2) a1.toNatClampNeg a2, upd (M.2.2.1 3) a1.toNatClampNeg a3, upd (M.2.2.1 4) a1.toNatClampNeg a4, upd (M.2.2.1 5) a1.toNatClampNeg a5)) (Y := ap_R_rotor M (0, upd (M.2.2.1 21) a1.toNatClampNeg 1, upd (M.2.2.1 22) a1.toNatClampNeg a2, upd (M.2.2.1 23) a1.toNatClampNeg a3, upd (M.2.2.1 24) a1.toNatClampNeg a4, upd (M.2.2.1 25) a1.toNatClampNeg a5)) ⟨a0, a0r, c1, c1r, c2, c2r, c3, c3r, a8, a9, a12, a13, a19, rt_keep aT k1 k2 k3 k4 k5 hn, aP⟩ ⟨b1, b2, b3, b4, ⟨b5, hrd⟩, b6, b7, b8, b9, b10, b11, b12, fun q => absurd (hst.symm.trans q) (by decide), fun q => q.elim (fun q => absurd (hst.symm.trans q) (by decide)) (fun q => absurd (hst.symm.trans q) (by decide)), b15⟩
    · rw [if_neg hn] at t1; exact absurd t1 (by decide)
  · have hpn : ¬ p.1 = 0 := by
      rw [if_neg t0] at hok
      rcases hp with rfl | rfl | rfl
      · exfalso
        by_cases t1 : T_U_rotor M a1 a2 a3 a4 a5 = 1
        · rw [if_pos t1] at hok; exact absurd (show (0 : Int32) = 1 from hok) (by decide)
        · rw [if_neg t1] at hok; exact absurd (show (0 : Int32) = 2 from hok) (by decide)
      · decide
      · decide
    rw [if_neg t0]
    by_cases t1 : T_U_rotor M a1 a2 a3 a4 a5 = 1
    · rw [if_pos t1]; exact thr p z j2 j6 j4 hpn
    · rw [if_neg t1]; exact thr p z j2 j6 j4 hpn
theorem al_seg {M : XM} {a1 a2 a3 : Int32} (h : ¬ F_Program_allowed M a1 a2 a3 = 0) : vSeg a1 a2 a3 := by
  unfold F_Program_allowed F_Program_allowed_k1 F_Program_allowed_k2 F_Program_allowed_k3 F_Program_allowed_k4 F_Program_allowed_k5 F_Program_allowed_k6 F_Program_allowed_k7 at h
  by_cases g0 : a1 = 0
  · rw [if_pos g0] at h
    by_cases q : F_U_within M a2 0 20000 = 0
    · rw [if_pos q] at h; exact absurd rfl h
    rw [if_neg q] at h
    by_cases r : F_U_within M a3 1 500 = 0
    · rw [if_pos r] at h; exact absurd rfl h
    exact Or.inl ⟨g0, (wi_iff M a2 0 20000).mp q, (wi_iff M a3 1 500).mp r⟩
  rw [if_neg g0] at h
  by_cases g1 : a1 = 1
  · rw [if_pos g1] at h
    exact Or.inr (Or.inl ⟨g1, (wi_iff M a2 1 100000).mp h⟩)
  rw [if_neg g1] at h
  by_cases g2 : a1 = 2
  · rw [if_pos g2] at h
    exact Or.inr (Or.inr (Or.inl ⟨g2, (wi_iff M a2 1 1000000).mp h⟩))
  rw [if_neg g2] at h
  by_cases g3 : a1 = 3
  · rw [if_pos g3] at h
    by_cases q : F_U_within M a2 0 20000 = 0
    · rw [if_pos q] at h; exact absurd rfl h
    rw [if_neg q] at h
    by_cases r : F_U_within M a3 1 9 = 0
    · rw [if_pos r] at h; exact absurd rfl h
    exact Or.inr (Or.inr (Or.inr (Or.inl ⟨g3, (wi_iff M a2 0 20000).mp q, (wi_iff M a3 1 9).mp r⟩)))
  rw [if_neg g3] at h
  by_cases g4 : a1 = 4
  · rw [if_pos g4] at h
    exact Or.inr (Or.inr (Or.inr (Or.inr ⟨g4, (wi_iff M a2 (-2000) 4000).mp h⟩)))
  rw [if_neg g4] at h
  exact absurd rfl h
set_option maxHeartbeats 4000000 in
set_option maxRecDepth 100000 in
theorem nx2 {T : Nat} {M : XM} (h : vRel T M) (a1 a2 a3 : Int32) : vRel T (xnx2 M a1 a2 a3) := by
  have hR := h
  obtain ⟨⟨a0, a0r, c1, c1r, c2, c2r, c3, c3r, a8, a9, a12, a13, a19, aT, aP⟩, b1, b2, b3, b4, b5, b6, b7, b8, b9, b10, b11, b12, b13, b14, b15⟩ := h
  have e5 : (M.1 102 < 12) ↔ ¬ (M.1 102 = 12) := by
    rw [Int32.lt_iff_toInt_lt, ← Int32.toInt_inj, show (12 : Int32).toInt = 12 by decide]
    omega
  have thr : ∀ (x : Int32), vRel T (xmix M (ap_R_segment M (x, M.2.2.1 26, M.2.2.1 27, M.2.2.1 28, M.1 102))) := fun x => rel_mix (X := M) (Y := ap_R_segment M (x, M.2.2.1 26, M.2.2.1 27, M.2.2.1 28, M.1 102)) hR.1 hR.2
  have vac1 : M.1 110 = 0 → ∀ {P : Prop}, M.1 110 = 1 → P := fun q _ r => absurd (q.symm.trans r) (by decide)
  have vac2 : M.1 110 = 0 → ∀ {P : Prop}, (M.1 110 = 1 ∨ M.1 110 = 2) → P := fun q _ r => r.elim (fun r => absurd (q.symm.trans r) (by decide)) (fun r => absurd (q.symm.trans r) (by decide))
  unfold xnx2
  by_cases g : a1 = -1
  · subst g
    have eR : F_R_segment M (-1) a2 a3 = if M.1 110 = 0 then (if M.1 109 = 0 then (0, (2, M.2.2.1 26, M.2.2.1 27, M.2.2.1 28, M.1 102)) else (0, (0, M.2.2.1 26, M.2.2.1 27, M.2.2.1 28, 0))) else (0, (2, M.2.2.1 26, M.2.2.1 27, M.2.2.1 28, M.1 102)) := by
      unfold F_R_segment
      rw [show F_R_isSegment M (-1) a2 a3 = 1 by rfl]
      unfold F_R_segment_k1 F_R_segment_j2 F_R_segment_k3 F_R_segment_j4 F_R_segment_k5
      by_cases q1 : M.1 109 = 0 <;> by_cases q2 : M.1 110 = 0 <;> simp [q1, q2, F_R_segment_k6, thr_0, thr_2, show ¬ (0 : Int32) ≤ -1 by decide, show (-1 : Int32) < 0 by decide]
    have eG : G_L_segment M (-1) a2 a3 = if M.1 110 = 0 then (if M.1 109 = 0 then (2, M) else (0, xout (ap_U_segment M (0, M.2.2.1 7, M.2.2.1 8, M.2.2.1 9)) M 0)) else (2, M) := by
      unfold G_L_segment T_U_segment F_U_segment F_Control_takesOrders
      rw [a12, b1]
      by_cases q1 : M.1 109 = 0 <;> by_cases q2 : M.1 110 = 0 <;> simp [q1, q2, T_U_segment_k1, F_U_segment_k1]
    rw [eR, eG]
    by_cases q2 : M.1 110 = 0
    · rw [if_pos q2, if_pos q2]
      by_cases q1 : M.1 109 = 0
      · rw [if_pos q1, if_pos q1]; exact thr 2
      · rw [if_neg q1, if_neg q1]
        have d12 : 0 ≤ (0 : Int32).toInt ∧ (0 : Int32).toInt ≤ 12 := by decide
        exact rel_mix (X := xout (ap_U_segment M (0, M.2.2.1 7, M.2.2.1 8, M.2.2.1 9)) M 0) (Y := ap_R_segment M (0, M.2.2.1 26, M.2.2.1 27, M.2.2.1 28, 0)) ⟨a0, a0r, rfl, d12, c2, c2r, c3, c3r, a8, a9, a12, a13, a19, aT, fun k hk => absurd (show (k : Int) < (0 : Int32).toInt from hk) (by rw [i0]; omega)⟩ ⟨b1, b2, b3, b4, b5, b6, b7, b8, b9, b10, b11, b12, vac1 q2, vac2 q2, b15⟩
    · rw [if_neg q2, if_neg q2]; exact thr 2
  · by_cases z : F_Program_allowed M a1 a2 a3 = 0
    · have eR : F_R_segment M a1 a2 a3 = (0, (1, M.2.2.1 26, M.2.2.1 27, M.2.2.1 28, M.1 102)) := by
        unfold F_R_segment
        rw [seg_al M a1 a2 a3 g, z]
        simp [F_R_segment_k1, F_R_segment_j2, F_R_segment_k3, F_R_segment_j4, F_R_segment_k5, F_R_segment_k6, thr_1]
      have eG : G_L_segment M a1 a2 a3 = (1, M) := by
        unfold G_L_segment T_U_segment
        rw [if_neg g, z]
        simp [T_U_segment_k2]
      rw [eR, eG]
      exact thr 1
    · have hv := al_seg z
      have hg := al_ge M a1 a2 a3 z
      have hn : ¬ a1 < 0 := not_lt_32 hg.1
      have eR : F_R_segment M a1 a2 a3 = if M.1 110 = 0 then (if M.1 109 = 0 then (0, (2, M.2.2.1 26, M.2.2.1 27, M.2.2.1 28, M.1 102)) else if M.1 102 = 12 then (0, (2, M.2.2.1 26, M.2.2.1 27, M.2.2.1 28, M.1 102)) else (M.1 102 + 1, (0, upd (M.2.2.1 26) (M.1 102).toNatClampNeg a1, upd (M.2.2.1 27) (M.1 102).toNatClampNeg a2, upd (M.2.2.1 28) (M.1 102).toNatClampNeg a3, M.1 102 + 1))) else (0, (2, M.2.2.1 26, M.2.2.1 27, M.2.2.1 28, M.1 102)) := by
        unfold F_R_segment
        rw [seg_al M a1 a2 a3 g]
        by_cases q1 : M.1 109 = 0 <;> by_cases q2 : M.1 110 = 0 <;> by_cases q3 : M.1 102 = 12 <;> simp [q1, q2, q3, z, hn, hg.1, F_R_segment_k1, F_R_segment_j2, F_R_segment_k3, F_R_segment_j4, F_R_segment_k5, F_R_segment_k6, thr_0, thr_2]
      have eG : G_L_segment M a1 a2 a3 = if M.1 110 = 0 then (if M.1 109 = 0 then (2, M) else if M.1 102 = 12 then (2, M) else (0, xout (ap_U_segment M (M.1 102 + 1, upd (M.2.2.1 7) (M.1 102).toNatClampNeg a1, upd (M.2.2.1 8) (M.1 102).toNatClampNeg a2, upd (M.2.2.1 9) (M.1 102).toNatClampNeg a3)) M (M.1 102 + 1).toInt64)) else (2, M) := by
        unfold G_L_segment T_U_segment F_U_segment
        rw [if_neg g, if_neg g]
        by_cases q1 : M.1 109 = 0 <;> by_cases q2 : M.1 110 = 0 <;> by_cases q3 : M.1 102 = 12 <;> simp [q1, q2, q3, z, e5, a12, b1, c1, F_Control_takesOrders, T_U_segment_k2, T_U_segment_k3, T_U_segment_k4, F_Program_full, F_U_segment_k2, F_U_segment_k3, F_U_segment_k4, F_U_segment_k5, F_Program_add, F_Program_add_k1]
      rw [eR, eG]
      by_cases q2 : M.1 110 = 0
      · rw [if_pos q2, if_pos q2]
        by_cases q1 : M.1 109 = 0
        · rw [if_pos q1, if_pos q1]; exact thr 2
        rw [if_neg q1, if_neg q1]
        by_cases q3 : M.1 102 = 12
        · rw [if_pos q3, if_pos q3]; exact thr 2
        rw [if_neg q3, if_neg q3]
        have hlt : (M.1 102).toInt < 12 := by
          have := e5.mpr q3
          rw [Int32.lt_iff_toInt_lt, show (12 : Int32).toInt = 12 by decide] at this
          exact this
        have n1 : (M.1 102 + 1).toInt = (M.1 102).toInt + 1 := by
          rw [n32_add (by rw [show (1 : Int32).toInt = 1 by decide]; omega) (by rw [show (1 : Int32).toInt = 1 by decide]; omega), show (1 : Int32).toInt = 1 by decide]
        have hkc : ((M.1 102).toNatClampNeg : Int) = (M.1 102).toInt := by
          have e : (M.1 102).toNatClampNeg = (M.1 102).toInt.toNat := rfl
          omega
        have hpg : vPG (xout (ap_U_segment M (M.1 102 + 1, upd (M.2.2.1 7) (M.1 102).toNatClampNeg a1, upd (M.2.2.1 8) (M.1 102).toNatClampNeg a2, upd (M.2.2.1 9) (M.1 102).toNatClampNeg a3)) M (M.1 102 + 1).toInt64) (ap_R_segment M (0, upd (M.2.2.1 26) (M.1 102).toNatClampNeg a1, upd (M.2.2.1 27) (M.1 102).toNatClampNeg a2, upd (M.2.2.1 28) (M.1 102).toNatClampNeg a3, M.1 102 + 1)) := by
          intro k hk
          have hk' : (k : Int) < (M.1 102 + 1).toInt := hk
          rw [n1] at hk'
          show upd (M.2.2.1 7) (M.1 102).toNatClampNeg a1 k = upd (M.2.2.1 26) (M.1 102).toNatClampNeg a1 k ∧ upd (M.2.2.1 8) (M.1 102).toNatClampNeg a2 k = upd (M.2.2.1 27) (M.1 102).toNatClampNeg a2 k ∧ upd (M.2.2.1 9) (M.1 102).toNatClampNeg a3 k = upd (M.2.2.1 28) (M.1 102).toNatClampNeg a3 k ∧ vSeg (upd (M.2.2.1 26) (M.1 102).toNatClampNeg a1 k) (upd (M.2.2.1 27) (M.1 102).toNatClampNeg a2 k) (upd (M.2.2.1 28) (M.1 102).toNatClampNeg a3 k)
          by_cases q : k = (M.1 102).toNatClampNeg
          · subst q
            simp only [up_s]
            exact ⟨trivial, trivial, trivial, hv⟩
          · simp only [up_n _ _ q]
            exact aP k (by omega)
        exact rel_mix (X := xout (ap_U_segment M (M.1 102 + 1, upd (M.2.2.1 7) (M.1 102).toNatClampNeg a1, upd (M.2.2.1 8) (M.1 102).toNatClampNeg a2, upd (M.2.2.1 9) (M.1 102).toNatClampNeg a3)) M (M.1 102 + 1).toInt64) (Y := ap_R_segment M (0, upd (M.2.2.1 26) (M.1 102).toNatClampNeg a1, upd (M.2.2.1 27) (M.1 102).toNatClampNeg a2, upd (M.2.2.1 28) (M.1 102).toNatClampNeg a3, M.1 102 + 1)) ⟨a0, a0r, rfl, (by show 0 ≤ (M.1 102 + 1).toInt ∧ (M.1 102 + 1).toInt ≤ 12; rw [n1]; omega), c2, c2r, c3, c3r, a8, a9, a12, a13, a19, aT, hpg⟩ ⟨b1, b2, b3, b4, b5, b6, b7, b8, b9, b10, b11, b12, vac1 q2, vac2 q2, b15⟩
      · rw [if_neg q2, if_neg q2]; exact thr 2
/-! the first memory, every call -/
set_option maxHeartbeats 4000000 in
set_option maxRecDepth 100000 in
theorem rel_first : vRel 0 xMS := by
  refine ⟨⟨rfl, by decide, rfl, by decide, rfl, by decide, rfl, by decide, rfl, rfl, rfl, rfl, rfl, ⟨fun k hk => ?_, fun j k hj hk h => ?_⟩, fun k hk => absurd (show (k : Int) < (0 : Int32).toInt from hk) (by rw [i0]; omega)⟩, rfl, Or.inl rfl, rfl, ⟨rfl, rfl, rfl⟩, ⟨rfl, Or.inl rfl⟩, ⟨by decide, by decide⟩, by decide, rfl, ⟨by decide, by decide⟩, rfl, ⟨rfl, by decide⟩, ⟨rfl, by decide, fun k _ => ⟨rfl, rfl, rfl⟩⟩, fun q => absurd (show (0 : Int32) = 1 from q) (by decide), fun q => q.elim (fun q => absurd (show (0 : Int32) = 1 from q) (by decide)) (fun q => absurd (show (0 : Int32) = 2 from q) (by decide)), fun _ => ⟨rfl, rfl⟩⟩
  · left
    match k, hk with
    | 0, _ => exact ⟨rfl, rfl, rfl⟩
    | 1, _ => exact ⟨rfl, rfl, rfl⟩
    | 2, _ => exact ⟨rfl, rfl, rfl⟩
    | 3, _ => exact ⟨rfl, rfl, rfl⟩
  · exfalso
    apply h
    match j, hj with
    | 0, _ => exact rfl
    | 1, _ => exact rfl
    | 2, _ => exact rfl
    | 3, _ => exact rfl
theorem rel_next {T : Nat} (hT : T + 2000 < 2000000000) {M M2 : XM} (h : vRel T M) (op a1 a2 a3 a4 a5 : Int32) (h2 : M2 = xnx M op a1 a2 a3 a4 a5 ∨ M2 = M) : vRel (T + 2000) M2 := by
  have up : ∀ {N : XM}, vRel T N → vRel (T + 2000) N := fun q => vRel_mono (Nat.le_add_right _ _) q
  rcases h2 with rfl | rfl
  · unfold xnx
    by_cases q0 : op = 0
    · rw [if_pos q0]; exact up (nx0 h _ _ _ _ _)
    rw [if_neg q0]
    by_cases q1 : op = 1
    · rw [if_pos q1]; exact up (nx1 h _)
    rw [if_neg q1]
    by_cases q2 : op = 2
    · rw [if_pos q2]; exact up (nx2 h _ _ _)
    rw [if_neg q2]
    by_cases q3 : op = 3
    · rw [if_pos q3]; exact up (nx3 h)
    rw [if_neg q3]
    by_cases q4 : op = 4
    · rw [if_pos q4]; exact up (nx4 h)
    rw [if_neg q4]
    by_cases q5 : op = 5
    · rw [if_pos q5]; exact up (nx5 h)
    rw [if_neg q5]
    by_cases q6 : op = 6
    · rw [if_pos q6]; exact up (nx6 h _ _)
    rw [if_neg q6]
    by_cases q7 : op = 7
    · rw [if_pos q7]; exact up (nx7 h _)
    rw [if_neg q7]
    by_cases q8 : op = 8
    · rw [if_pos q8]; exact up (nx8 h _)
    rw [if_neg q8]
    by_cases q9 : op = 9
    · rw [if_pos q9]; exact up (nx9 h _ _)
    rw [if_neg q9]
    by_cases q10 : op = 10
    · rw [if_pos q10]; exact up (nx10 h _)
    rw [if_neg q10]
    by_cases q11 : op = 11
    · rw [if_pos q11]; exact nx11 hT h _
    rw [if_neg q11]
    by_cases q12 : op = 12
    · rw [if_pos q12]; exact up (nx12 h _)
    rw [if_neg q12]
    by_cases q13 : op = 13
    · rw [if_pos q13]; exact up (nx13 h)
    rw [if_neg q13]
    by_cases q14 : op = 14
    · rw [if_pos q14]; exact up (nx14 h)
    rw [if_neg q14]
    by_cases q15 : op = 15
    · rw [if_pos q15]; exact up (nx15 h)
    rw [if_neg q15]
    by_cases q16 : op = 16
    · rw [if_pos q16]; exact up (nx16 h _ _)
    rw [if_neg q16]
    exact up h
  · exact up h

/-! what the relation says of each answer -/
theorem rel_ok0 {T : Nat} {M : XM} (h : vRel T M) (a1 a2 a3 a4 a5 : Int32) : xOK0 M a1 a2 a3 a4 a5 := by
  obtain ⟨⟨a0, a0r, c1, c1r, c2, c2r, c3, c3r, a8, a9, a12, a13, a19, aT, aP⟩, b1, -⟩ := h
  exact ok0 M a1 a2 a3 a4 a5 a12 b1 aT
theorem rel_ok2 {T : Nat} {M : XM} (h : vRel T M) (a1 a2 a3 : Int32) : xOK2 M a1 a2 a3 := by
  have q := rel_12 h
  obtain ⟨⟨a0, a0r, c1, c1r, c2, c2r, c3, c3r, a8, a9, a12, a13, a19, aT, aP⟩, b1, -⟩ := h
  exact ok2 M a1 a2 a3 a12 b1 c1 q.2.2.1 q.2.2.2
theorem rel_ok3 {T : Nat} {M : XM} (h : vRel T M) : xOK3 M := by
  obtain ⟨⟨a0, a0r, c1, c1r, c2, c2r, c3, c3r, a8, a9, a12, a13, a19, aT, aP⟩, b1, -⟩ := h
  exact ok3 M a12 b1 c1 a8 a9
theorem rel_ok4 {T : Nat} {M : XM} (h : vRel T M) : xOK4 M := by
  obtain ⟨⟨a0, a0r, c1, c1r, c2, c2r, c3, c3r, a8, a9, a12, a13, a19, aT, aP⟩, b1, -⟩ := h
  exact ok4 M a12 b1
theorem rel_ok5 {T : Nat} {M : XM} (h : vRel T M) : xOK5 M := by
  obtain ⟨⟨a0, a0r, c1, c1r, c2, c2r, c3, c3r, a8, a9, a12, a13, a19, aT, aP⟩, b1, b2, b3, b4, -⟩ := h
  exact ok5 M a12 b1 b4.1
theorem rel_ok10 {T : Nat} {M : XM} (h : vRel T M) (a1 : Int32) : xOK10 M a1 := by
  obtain ⟨⟨a0, a0r, c1, c1r, c2, c2r, c3, c3r, a8, a9, a12, a13, a19, aT, aP⟩, b1, -⟩ := h
  exact ok10 M a1 a12
theorem rel_ok13 {T : Nat} {M : XM} (h : vRel T M) : xOK13 M := by
  obtain ⟨-, b1, b2, b3, b4, b5, b6, b7, b8, b9, b10, -⟩ := h
  exact ok13 M b10
theorem rel_ok14 {T : Nat} {M : XM} (h : vRel T M) : xOK14 M := by
  have q := rel_116 h
  obtain ⟨⟨a0, a0r, c1, c1r, c2, c2r, c3, c3r, a8, a9, a12, a13, a19, aT, aP⟩, b1, b2, b3, b4, ⟨b5, b5d⟩, ⟨b6, -⟩, -⟩ := h
  exact ok14 M q b5 b6 (fun g => (vRd_t aT b5d g).2.2.1)
theorem rel_ok15 {T : Nat} {M : XM} (h : vRel T M) : xOK15 M := by
  obtain ⟨-, b1, b2, b3, b4, b5, b6, b7, b8, b9, b10, ⟨b11, -⟩, -⟩ := h
  exact ok15 M b11
theorem rel_ok16 {T : Nat} {M : XM} (h : vRel T M) (a1 a2 : Int32) : xOK16 M a1 a2 := by
  obtain ⟨-, b1, b2, b3, b4, b5, b6, b7, b8, b9, b10, b11, ⟨b12, b12r, b12k⟩, -⟩ := h
  exact ok16 M a1 a2 b12 b12r.1 b12k


