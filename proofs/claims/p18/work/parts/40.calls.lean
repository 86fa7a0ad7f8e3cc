/-! the relation at every call -/
def vRel (T : Nat) (M : XM) : Prop := vA M M ∧ vB T M M
theorem vB_mono {T S : Nat} {C R : XM} (h : T ≤ S) (hB : vB T C R) : vB S C R := by
  obtain ⟨b1, b2, b3, b4, b5, b6, b7, b8, b9, b10, b11, ⟨b12, b12r, b12k⟩, b13, b14, b15⟩ := hB
  exact ⟨b1, b2, b3, b4, b5, b6, b7, b8, b9, b10, b11, ⟨b12, ⟨b12r.1, by have := b12r.2; omega⟩, b12k⟩, b13, b14, b15⟩
theorem vRel_mono {T S : Nat} {M : XM} (h : T ≤ S) (hr : vRel T M) : vRel S M := ⟨hr.1, vB_mono h hr.2⟩
theorem rel_mix {T : Nat} {X Y : XM} (hA : vA X Y) (hB : vB T X Y) : vRel T (xmix X Y) := ⟨hA, hB⟩
theorem rel_RI {T : Nat} {C R : XM} (hA : vA C R) (hB : vB T C R) : xRI R := by
  have hs := sn_all hA hB
  obtain ⟨a0, a0r, a1, a1r, a2, a2r, a3, a3r, a8, a9, a12, a13, a19, aT, aP⟩ := hA
  obtain ⟨b1, b2, b3, b4, b5, b6, b7, b8, b9, b10, b11, ⟨b12, b12r, b12k⟩, b13, b14, b15⟩ := hB
  obtain ⟨-, -, -, -, ⟨-, hd⟩, -⟩ := hs
  have e4 : (4 : Int32).toInt = 4 := by decide
  refine ⟨by rw [Int32.lt_iff_toInt_lt, e4]; omega, ?_, fun q => ?_, by rw [Int32.le_iff_toInt_le, i0]; exact b12r.1, fun q1 q2 => ?_⟩
  · rw [Int32.lt_iff_toInt_lt, e4]
    rcases vRd_r hd with h | h
    · rw [h, im1]; decide
    · omega
  · obtain ⟨-, h1, -⟩ := b13 q
    rw [vp_in_iff]
    omega
  · rw [Int32.lt_iff_toInt_lt, i0] at q1
    have hk : (R.1 101).toNatClampNeg < 4 := clamp_lt (by omega) (by omega)
    rcases aT.1 _ hk with ⟨k1, -⟩ | ⟨k1, k2, k3, k4, k5, k6, k7, k8, k9⟩
    · exact absurd k1 q2
    · intro g
      rw [g, i0] at k9
      omega
theorem rel_n {M : XM} {a1 : Int32} (h : ¬ F_R_in M a1.toInt64 1 2000 = 0) : a1.toNatClampNeg ≤ 2000 := by
  rw [xin_w M M a1 1 2000 1 2000 (by decide) (by decide)] at h
  have := (wi_iff M a1 1 2000).mp h
  rw [show (1 : Int32).toInt = 1 by decide, show (2000 : Int32).toInt = 2000 by decide] at this
  have e : a1.toNatClampNeg = a1.toInt.toNat := rfl
  omega
theorem tick_T (M : XM) (a1 : Int32) : T_U_tick M a1 = if F_R_in M a1.toInt64 1 2000 = 0 then 1 else 0 := by
  unfold T_U_tick T_U_tick_k1
  rw [xin_w M M a1 1 2000 1 2000 (by decide) (by decide)]
theorem tick_0 {M : XM} {a1 : Int32} (g : F_R_in M a1.toInt64 1 2000 = 0) : F_R_tickA M a1 = (0, (va_up M.1 100 1, M.2)) ∧ G_L_tick M a1 = (1, M) := by
  constructor
  · unfold F_R_tickA; rw [if_pos g]
  · unfold G_L_tick; rw [tick_T, if_pos g, if_neg (by decide)]
theorem tick_1 {M : XM} {a1 : Int32} (g : ¬ F_R_in M a1.toInt64 1 2000 = 0) : F_R_tickA M a1 = ((xit_R_tick (va_up M.1 100 0, M.2) a1.toNatClampNeg).1 110, xit_R_tick (va_up M.1 100 0, M.2) a1.toNatClampNeg) ∧ G_L_tick M a1 = (0, (xout (xit_U_tick M a1.toNatClampNeg) M (((xit_U_tick M a1.toNatClampNeg).1 14)).toInt64)) := by
  constructor
  · unfold F_R_tickA; rw [if_neg g]
  · unfold G_L_tick; rw [tick_T, if_neg g, if_pos rfl]
theorem rel_RIs {T : Nat} (hT : T + 2000 < 2000000000) {M : XM} (h : vRel T M) (a1 : Int32) (g : ¬ F_R_in M a1.toInt64 1 2000 = 0) (j : Nat) (hj : j < a1.toNatClampNeg) : xRI (xit_R_tick (va_up M.1 100 0, M.2) j) := by
  have hn := rel_n g
  obtain ⟨h1, h2⟩ := tk_steps (C := M) (R := (va_up M.1 100 0, M.2)) (T := T) h.1 h.2 j (by omega)
  exact rel_RI h1 h2
theorem rel_12 {T : Nat} {M : XM} (h : vRel T M) : M.1 1 ≤ 12 ∧ 0 ≤ M.1 1 ∧ 0 ≤ M.1 102 ∧ M.1 102 ≤ 12 := by
  obtain ⟨⟨a0, a0r, a1, a1r, -⟩, -⟩ := h
  rw [a1]
  simp only [Int32.le_iff_toInt_le, i0, show (12 : Int32).toInt = 12 by decide]
  omega
theorem rel_116 {T : Nat} {M : XM} (h : vRel T M) : M.1 116 < 4 := by
  obtain ⟨-, b1, b2, b3, b4, ⟨b5, b5d⟩, -⟩ := h
  rw [Int32.lt_iff_toInt_lt, show (4 : Int32).toInt = 4 by decide]
  rcases vRd_r b5d with h | h
  · rw [h, im1]; decide
  · omega
set_option maxHeartbeats 4000000 in
set_option maxRecDepth 100000 in
theorem rel_ok11 {T : Nat} (hT : T + 2000 < 2000000000) {M : XM} (h : vRel T M) (a1 : Int32) : xOK11 M a1 := by
  refine ⟨(rel_12 h).1, fun g j hj => rel_RIs hT h a1 g j hj, ?_⟩
  by_cases g : F_R_in M a1.toInt64 1 2000 = 0
  · rw [(tick_0 g).1, (tick_0 g).2]
    exact ⟨rfl, fun (q : (1 : Int32) = 0) => absurd q (by decide)⟩
  · have hn := rel_n g
    obtain ⟨-, h2⟩ := tk_steps (C := M) (R := (va_up M.1 100 0, M.2)) (T := T) h.1 h.2 a1.toNatClampNeg (by omega)
    rw [(tick_1 g).1, (tick_1 g).2]
    have e := tk_thrown (va_up M.1 100 0, M.2) a1.toNatClampNeg
    generalize xit_R_tick (va_up M.1 100 0, M.2) a1.toNatClampNeg = R at h2 e
    generalize xit_U_tick M a1.toNatClampNeg = C at h2
    refine ⟨e, fun _ => ?_⟩
    show (C.1 14).toInt64 = (R.1 110).toInt64
    rw [h2.1]
set_option maxHeartbeats 4000000 in
set_option maxRecDepth 100000 in
theorem nx11 {T : Nat} (hT : T + 2000 < 2000000000) {M : XM} (h : vRel T M) (a1 : Int32) : vRel (T + 2000) (xnx11 M a1) := by
  unfold xnx11
  by_cases g : F_R_in M a1.toInt64 1 2000 = 0
  · rw [(tick_0 g).1, (tick_0 g).2]
    exact rel_mix (X := M) (Y := (va_up M.1 100 1, M.2)) h.1 (vB_mono (Nat.le_add_right _ _) h.2)
  · have hn := rel_n g
    obtain ⟨h1, h2⟩ := tk_steps (C := M) (R := (va_up M.1 100 0, M.2)) (T := T) h.1 h.2 a1.toNatClampNeg (by omega)
    rw [(tick_1 g).1, (tick_1 g).2]
    generalize xit_R_tick (va_up M.1 100 0, M.2) a1.toNatClampNeg = R at h1 h2
    generalize xit_U_tick M a1.toNatClampNeg = C at h1 h2
    exact rel_mix (X := xout C M (C.1 14).toInt64) (Y := R) h1 (vB_mono (S := T + 2000) (by omega) h2)
/-! calls that set a thing alone -/
theorem put_0 {M : XM} {a1 : Int32} (g : F_U_within M a1 (-1) 3 = 0) : G_L_put M a1 = (1, M) ∧ F_R_put M a1 = (1, M.1 101) := by
  have hn : ¬ a1 = -1 := fun q => by rw [q] at g; exact absurd (show (1 : Int32) = 0 from g) (by decide)
  constructor
  · unfold G_L_put T_U_put T_U_put_k1
    rw [if_neg hn, ← wi_put M a1 hn, g]
    rfl
  · unfold F_R_put F_R_put_k1 F_R_put_j2 F_R_put_k3 F_R_put_k4
    rw [xin_w M M a1 (-1) 3 (-1) 3 (by decide) (by decide), g, if_pos rfl, thr_1 M 1 (by decide)]
    rfl
theorem put_1 {M : XM} {a1 : Int32} (g : ¬ F_U_within M a1 (-1) 3 = 0) : G_L_put M a1 = (0, ap_U_put M a1) ∧ F_R_put M a1 = (0, a1) := by
  constructor
  · unfold G_L_put T_U_put T_U_put_k1 F_U_put F_U_put_k1
    by_cases hn : a1 = -1
    · rw [if_pos hn, if_pos hn, if_pos rfl]
    · rw [if_neg hn, if_neg hn, ← wi_put M a1 hn, if_neg g, if_neg g, if_pos rfl]
  · unfold F_R_put F_R_put_k1 F_R_put_j2 F_R_put_k3 F_R_put_k4
    rw [xin_w M M a1 (-1) 3 (-1) 3 (by decide) (by decide), if_neg g, thr_0, if_pos rfl]
set_option maxHeartbeats 4000000 in
set_option maxRecDepth 100000 in
theorem nx1 {T : Nat} {M : XM} (h : vRel T M) (a1 : Int32) : vRel T (xnx1 M a1) := by
  unfold xnx1
  by_cases g : F_U_within M a1 (-1) 3 = 0
  · rw [(put_0 g).1, (put_0 g).2]
    exact rel_mix (X := M) (Y := ap_R_put M (1, M.1 101)) h.1 h.2
  · rw [(put_1 g).1, (put_1 g).2]
    have r := (wi_iff M a1 (-1) 3).mp g
    rw [im1, show (3 : Int32).toInt = 3 by decide] at r
    exact rel_mix (X := ap_U_put M a1) (Y := ap_R_put M (0, a1)) ⟨rfl, r, h.1.2.2⟩ h.2
set_option maxHeartbeats 4000000 in
set_option maxRecDepth 100000 in
theorem nx7 {T : Nat} {M : XM} (h : vRel T M) (a1 : Int32) : vRel T (xnx7 M a1) := by
  unfold xnx7 G_L_shake T_U_shake F_R_shake F_U_shake
  rw [xin_w M M a1 0 100000 0 100000 (by decide) (by decide)]
  obtain ⟨⟨a0, a0r, a1', a1r, a2, a2r, a3, a3r, a8, a9, a12, a13, a19, aT, aP⟩, hB⟩ := h
  by_cases g : F_U_within M a1 0 100000 = 0
  · have e1 : T_U_shake_k1 M a1 (F_U_within M a1 0 100000) = 1 := by unfold T_U_shake_k1; rw [if_pos g]
    have e2 : F_R_shake_k1 M a1 (F_U_within M a1 0 100000) = (1, M.1 123) := by
      unfold F_R_shake_k1 F_R_shake_j2 F_R_shake_k3 F_R_shake_k4
      rw [if_pos g, thr_1 M 1 (by decide)]
      rfl
    rw [e1, e2]
    exact rel_mix (X := M) (Y := ap_R_shake M (1, M.1 123)) ⟨a0, a0r, a1', a1r, a2, a2r, a3, a3r, a8, a9, a12, a13, a19, aT, aP⟩ hB
  · have e1 : T_U_shake_k1 M a1 (F_U_within M a1 0 100000) = 0 := by unfold T_U_shake_k1; rw [if_neg g]
    have e2 : F_R_shake_k1 M a1 (F_U_within M a1 0 100000) = (0, a1) := by
      unfold F_R_shake_k1 F_R_shake_j2 F_R_shake_k3 F_R_shake_k4
      rw [if_neg g, thr_0]
      rfl
    have e3 : F_U_shake_k1 M a1 (F_U_within M a1 0 100000) = a1 := by unfold F_U_shake_k1; rw [if_neg g]
    rw [e1, e2, e3]
    exact rel_mix (X := ap_U_shake M a1) (Y := ap_R_shake M (0, a1)) ⟨a0, a0r, a1', a1r, a2, a2r, a3, a3r, a8, a9, a12, a13, rfl, aT, aP⟩ hB
set_option maxHeartbeats 4000000 in
set_option maxRecDepth 100000 in
theorem nx8 {T : Nat} {M : XM} (h : vRel T M) (a1 : Int32) : vRel T (xnx8 M a1) := by
  unfold xnx8 G_L_chamber T_U_chamber F_R_chamber F_U_chamber
  rw [xin_w M M a1 (-10000) 10000 (-10000) 10000 (by decide) (by decide)]
  obtain ⟨⟨a0, a0r, a1', a1r, a2, a2r, a3, a3r, a8, a9, a12, a13, a19, aT, aP⟩, hB⟩ := h
  by_cases g : F_U_within M a1 (-10000) 10000 = 0
  · have e1 : T_U_chamber_k1 M a1 (F_U_within M a1 (-10000) 10000) = 1 := by unfold T_U_chamber_k1; rw [if_pos g]
    have e2 : F_R_chamber_k1 M a1 (F_U_within M a1 (-10000) 10000) = (1, M.1 124) := by
      unfold F_R_chamber_k1 F_R_chamber_j2 F_R_chamber_k3 F_R_chamber_k4
      rw [if_pos g, thr_1 M 1 (by decide)]
      rfl
    rw [e1, e2]
    exact rel_mix (X := M) (Y := ap_R_chamber M (1, M.1 124)) ⟨a0, a0r, a1', a1r, a2, a2r, a3, a3r, a8, a9, a12, a13, a19, aT, aP⟩ hB
  · have e1 : T_U_chamber_k1 M a1 (F_U_within M a1 (-10000) 10000) = 0 := by unfold T_U_chamber_k1; rw [if_neg g]
    have e2 : F_R_chamber_k1 M a1 (F_U_within M a1 (-10000) 10000) = (0, a1) := by
      unfold F_R_chamber_k1 F_R_chamber_j2 F_R_chamber_k3 F_R_chamber_k4
      rw [if_neg g, thr_0]
      rfl
    have e3 : F_U_chamber_k1 M a1 (F_U_within M a1 (-10000) 10000) = a1 := by unfold F_U_chamber_k1; rw [if_neg g]
    rw [e1, e2, e3]
    exact rel_mix (X := ap_U_chamber M a1) (Y := ap_R_chamber M (0, a1)) ⟨a0, a0r, a1', a1r, a2, a2r, a3, a3r, a8, a9, a12, rfl, a19, aT, aP⟩ hB
set_option maxHeartbeats 4000000 in
set_option maxRecDepth 100000 in
theorem nx9 {T : Nat} {M : XM} (h : vRel T M) (a1 a2 : Int32) : vRel T (xnx9 M a1 a2) := by
  unfold xnx9 G_L_fail T_U_fail F_R_fail F_U_fail T_U_fail_k1 F_R_fail_k1 F_R_fail_j3 F_U_fail_k1
  rw [xin_w M M a1 0 1 0 1 (by decide) (by decide), xin_w M M a2 (-1) 1000000 (-1) 1000000 (by decide) (by decide)]
  obtain ⟨⟨a0, a0r, a1', a1r, c2, c2r, c3, c3r, a8, a9, a12, a13, a19, aT, aP⟩, hB⟩ := h
  have thrown : ∀ z : Int32, vRel T (xmix M (ap_R_fail M (F_R_fail_k4 M a1 a2 z 1))) := by
    intro z
    have e2 : F_R_fail_k4 M a1 a2 z 1 = (1, M.1 108, M.1 107) := by
      unfold F_R_fail_k4 F_R_fail_k5
      rw [thr_1 M 1 (by decide)]
      rfl
    rw [e2]
    exact rel_mix (X := M) (Y := ap_R_fail M (1, M.1 108, M.1 107)) ⟨a0, a0r, a1', a1r, c2, c2r, c3, c3r, a8, a9, a12, a13, a19, aT, aP⟩ hB
  by_cases g : F_U_within M a1 0 1 = 0
  · rw [g, if_pos rfl, if_pos rfl, if_neg (show ¬ (1 : Nat) = 0 by decide)]
    exact thrown 0
  · rw [if_neg g, if_neg g, if_neg g]
    by_cases g2 : F_U_within M a2 (-1) 1000000 = 0
    · have e1 : T_U_fail_k2 M a1 a2 (F_U_within M a1 0 1) (F_U_within M a2 (-1) 1000000) = 1 := by unfold T_U_fail_k2; rw [if_pos g2]
      have e2 : F_R_fail_k2 M a1 a2 (F_U_within M a1 0 1) (F_U_within M a2 (-1) 1000000) = 1 := by unfold F_R_fail_k2; rw [if_pos g2]
      rw [e1, e2, if_neg (show ¬ (1 : Nat) = 0 by decide)]
      exact thrown _
    · have e1 : T_U_fail_k2 M a1 a2 (F_U_within M a1 0 1) (F_U_within M a2 (-1) 1000000) = 0 := by unfold T_U_fail_k2; rw [if_neg g2]
      have e2 : F_R_fail_k2 M a1 a2 (F_U_within M a1 0 1) (F_U_within M a2 (-1) 1000000) = 0 := by unfold F_R_fail_k2; rw [if_neg g2]
      have r := (wi_iff M a2 (-1) 1000000).mp g2
      rw [im1, show (1000000 : Int32).toInt = 1000000 by decide] at r
      rw [e1, e2, if_pos rfl]
      unfold F_R_fail_k4 F_R_fail_k5 F_U_fail_k2
      rw [thr_0, if_pos rfl, if_neg g2]
      by_cases g3 : a1 = 0
      · rw [if_pos g3, if_pos g3]
        exact rel_mix (X := ap_U_fail M (M.1 3, a2)) (Y := ap_R_fail M (0, M.1 108, a2)) ⟨a0, a0r, a1', a1r, rfl, r, c3, c3r, a8, a9, a12, a13, a19, aT, aP⟩ hB
      · rw [if_neg g3, if_neg g3]
        exact rel_mix (X := ap_U_fail M (a2, M.1 2)) (Y := ap_R_fail M (0, a2, M.1 107)) ⟨a0, a0r, a1', a1r, c2, c2r, rfl, r, a8, a9, a12, a13, a19, aT, aP⟩ hB
set_option maxHeartbeats 4000000 in
set_option maxRecDepth 100000 in
theorem nx6 {T : Nat} {M : XM} (h : vRel T M) (a1 a2 : Int32) : vRel T (xnx6 M a1 a2) := by
  unfold xnx6 F_U_bolt F_R_bolt
  obtain ⟨⟨a0, a0r, a1', a1r, a2', a2r, a3, a3r, a8, a9, a12, a13, a19, aT, aP⟩, hB⟩ := h
  exact rel_mix (X := ap_U_bolt M (xnz a1, xnz a2)) (Y := ap_R_bolt M (0, xnz a1, xnz a2)) ⟨a0, a0r, a1', a1r, a2', a2r, a3, a3r, rfl, rfl, a12, a13, a19, aT, aP⟩ hB
set_option maxHeartbeats 4000000 in
set_option maxRecDepth 100000 in
theorem nx5 {T : Nat} {M : XM} (h : vRel T M) : vRel T (xnx5 M) := by
  unfold xnx5 G_L_open
  have key : ∀ (u : Int32) (v : Int32 × Int32), vRel T (xmix (ap_U_open M u) (ap_R_open M v)) := fun u v => rel_mix (X := ap_U_open M u) (Y := ap_R_open M v) h.1 h.2
  have key2 : ∀ (v : Int32 × Int32), vRel T (xmix M (ap_R_open M v)) := fun v => rel_mix (X := M) (Y := ap_R_open M v) h.1 h.2
  by_cases q : T_U_open M = 0
  · rw [if_pos q]; exact key _ _
  · rw [if_neg q]; exact key2 _
set_option maxHeartbeats 4000000 in
set_option maxRecDepth 100000 in
theorem nx12 {T : Nat} {M : XM} (h : vRel T M) (a1 : Int32) : vRel T (xnx12 M a1) := by
  unfold xnx12 G_L_look
  have key : ∀ (x : Int64) (v : Int32), vRel T (xmix (xout M M x) (ap_R_look M v)) := fun x v => rel_mix (X := xout M M x) (Y := ap_R_look M v) h.1 h.2
  have key2 : ∀ (v : Int32), vRel T (xmix M (ap_R_look M v)) := fun v => rel_mix (X := M) (Y := ap_R_look M v) h.1 h.2
  by_cases q : T_U_look M a1 = 0
  · rw [if_pos q]; exact key _ _
  · rw [if_neg q]; exact key2 _
theorem nx13 {T : Nat} {M : XM} (h : vRel T M) : vRel T (xnx13 M) := rel_mix (X := M) (Y := ap_R_dose M (F_R_dose M).2) h.1 h.2
theorem nx14 {T : Nat} {M : XM} (h : vRel T M) : vRel T (xnx14 M) := rel_mix (X := M) (Y := ap_R_force M (F_R_force M).2) h.1 h.2
theorem nx15 {T : Nat} {M : XM} (h : vRel T M) : vRel T (xnx15 M) := rel_mix (X := M) (Y := ap_R_plant M (F_R_plant M).2) h.1 h.2
set_option maxHeartbeats 4000000 in
set_option maxRecDepth 100000 in
theorem nx16 {T : Nat} {M : XM} (h : vRel T M) (a1 a2 : Int32) : vRel T (xnx16 M a1 a2) := by
  unfold xnx16 G_L_record
  have key : ∀ (x : Int64) (v : Int32), vRel T (xmix (xout M M x) (ap_R_record M v)) := fun x v => rel_mix (X := xout M M x) (Y := ap_R_record M v) h.1 h.2
  have key2 : ∀ (v : Int32), vRel T (xmix M (ap_R_record M v)) := fun v => rel_mix (X := M) (Y := ap_R_record M v) h.1 h.2
  by_cases q : T_U_record M a1 a2 = 0
  · rw [if_pos q]; exact key _ _
  · rw [if_neg q]
    by_cases q2 : T_U_record M a1 a2 = 1
    · rw [if_pos q2]; exact key2 _
    · rw [if_neg q2]; exact key2 _

/-! power, start, stop -/
set_option maxHeartbeats 4000000 in
set_option maxRecDepth 100000 in
theorem nx10 {T : Nat} {M : XM} (h : vRel T M) (a1 : Int32) : vRel T (xnx10 M a1) := by
  unfold xnx10 G_L_power T_U_power F_R_power F_R_power_j1 F_U_power F_R_power_k2
  obtain ⟨⟨a0, a0r, a1', a1r, a2, a2r, a3, a3r, a8, a9, a12, a13, a19, aT, aP⟩, b1, b2, b3, b4, b5, b6, b7, b8, b9, b10, b11, b12, b13, b14, b15⟩ := h
  rw [a12]
  have hx := xnz01 a1
  generalize xnz a1 = x at hx
  by_cases g : M.1 109 = x
  · rw [if_pos g, if_pos g.symm, thr_1 M 1 (by decide), if_neg (show ¬ (2 : Nat) = 0 by decide)]
    unfold F_R_power_k3
    rw [if_neg (show ¬ ((1, 1) : Int32 × Int32).1 = 0 by decide)]
    exact rel_mix (X := M) (Y := ap_R_power M (1, M.1 109, M.1 118, M.1 119, M.1 120, M.1 106, M.1 103, M.1 104, M.1 105, M.1 110, M.1 111)) ⟨a0, a0r, a1', a1r, a2, a2r, a3, a3r, a8, a9, a12, a13, a19, aT, aP⟩ ⟨b1, b2, b3, b4, b5, b6, b7, b8, b9, b10, b11, b12, b13, b14, b15⟩
  · rw [if_neg g, if_neg (show ¬ x = M.1 109 from fun q => g q.symm), thr_0, if_pos rfl, if_neg g]
    unfold F_R_power_k3
    rw [if_pos rfl]
    rcases hx with rfl | rfl
    · rw [if_pos rfl, if_pos rfl]
      unfold F_U_power_k1 F_Control_powerGoes F_Control_powerGoes_k1 F_Watch_forget
      exact rel_mix (X := ap_U_power M (0, 0, 0, 0, M.1 14, M.1 15)) (Y := ap_R_power M (0, 0, 0, 0, 0, 0, 0, 0, 0, M.1 110, M.1 111)) ⟨a0, a0r, a1', a1r, a2, a2r, a3, a3r, a8, a9, rfl, a13, a19, aT, aP⟩ ⟨b1, b2, b3, ⟨rfl, rfl, rfl⟩, b5, b6, b7, b8, b9, b10, b11, b12, b13, b14, fun _ => ⟨rfl, rfl⟩⟩
    · rw [if_neg (show ¬ (1 : Int32) = 0 by decide), if_neg (show ¬ (1 : Int32) = 0 by decide)]
      unfold F_U_power_k2 F_Control_powerComes F_Control_powerComes_k1 F_Watch_forget
      rw [b1]
      by_cases g2 : M.1 110 = 0
      · rw [if_pos g2, if_pos g2]
        exact rel_mix (X := ap_U_power M (1, 0, 0, 0, M.1 110, M.1 15)) (Y := ap_R_power M (0, 1, 0, 0, 0, 0, 0, 0, 0, M.1 110, M.1 111)) ⟨a0, a0r, a1', a1r, a2, a2r, a3, a3r, a8, a9, rfl, a13, a19, aT, aP⟩ ⟨rfl, b2, b3, ⟨rfl, rfl, rfl⟩, b5, b6, b7, b8, b9, b10, b11, b12, b13, b14, fun _ => ⟨rfl, rfl⟩⟩
      · rw [if_neg g2, if_neg g2]
        exact rel_mix (X := ap_U_power M (1, 0, 0, 0, 3, 12)) (Y := ap_R_power M (0, 1, 0, 0, 0, 0, 0, 0, 0, 3, 12)) ⟨a0, a0r, a1', a1r, a2, a2r, a3, a3r, a8, a9, rfl, a13, a19, aT, aP⟩ ⟨rfl, Or.inr (Or.inr (Or.inr rfl)), rfl, ⟨rfl, rfl, rfl⟩, b5, b6, b7, b8, b9, b10, b11, b12, fun q => absurd (show (3 : Int32) = 1 from q) (by decide), fun q => q.elim (fun q => absurd (show (3 : Int32) = 1 from q) (by decide)) (fun q => absurd (show (3 : Int32) = 2 from q) (by decide)), fun _ => ⟨rfl, rfl⟩⟩
set_option maxHeartbeats 4000000 in
set_option maxRecDepth 100000 in
theorem nx4 {T : Nat} {M : XM} (h : vRel T M) : vRel T (xnx4 M) := by
  unfold xnx4 G_L_stop T_U_stop F_R_stop F_R_stop_j1 F_U_stop F_Control_takesOrders
  obtain ⟨⟨a0, a0r, a1', a1r, a2, a2r, a3, a3r, a8, a9, a12, a13, a19, aT, aP⟩, b1, b2, b3, b4, b5, b6, b7, b8, b9, b10, b11, b12, b13, b14, b15⟩ := h
  rw [a12, b1]
  have thrown : vRel T (xmix M (ap_R_stop M (F_R_stop_k2 M 1))) := by
    unfold F_R_stop_k2 F_R_stop_k3
    rw [thr_1 M 1 (by decide), if_neg (show ¬ ((1, 1) : Int32 × Int32).1 = 0 by decide)]
    exact rel_mix (X := M) (Y := ap_R_stop M (1, M.1 110, M.1 111)) ⟨a0, a0r, a1', a1r, a2, a2r, a3, a3r, a8, a9, a12, a13, a19, aT, aP⟩ ⟨b1, b2, b3, b4, b5, b6, b7, b8, b9, b10, b11, b12, b13, b14, b15⟩
  have k2 : T_U_stop_k1 M 0 = 2 := by unfold T_U_stop_k1; rw [if_pos rfl]
  have k0 : T_U_stop_k1 M 1 = 0 := by unfold T_U_stop_k1; rw [if_neg (by decide)]
  by_cases g : M.1 109 = 0
  · rw [if_pos g, if_pos g, k2, if_neg (show ¬ (2 : Nat) = 0 by decide)]
    exact thrown
  · rw [if_neg g, if_neg g]
    by_cases g2 : M.1 110 = 1
    · rw [if_pos g2, if_pos g2, k0, if_pos rfl]
      unfold F_R_stop_k2 F_R_stop_k3 F_U_stop_k1 F_U_stop_k2 F_Control_beginStopping
      rw [thr_0, if_pos rfl, if_neg (show ¬ (1 : Int32) = 0 by decide)]
      exact rel_mix (X := ap_U_stop M (2, 11)) (Y := ap_R_stop M (0, 2, 11)) ⟨a0, a0r, a1', a1r, a2, a2r, a3, a3r, a8, a9, a12, a13, a19, aT, aP⟩ ⟨rfl, Or.inr (Or.inr (Or.inl rfl)), rfl, b4, b5, b6, b7, b8, b9, b10, b11, b12, fun q => absurd (show (2 : Int32) = 1 from q) (by decide), fun _ => b14 (Or.inl g2), b15⟩
    · rw [if_neg g2, if_neg g2, k2, if_neg (show ¬ (2 : Nat) = 0 by decide)]
      exact thrown
set_option maxHeartbeats 4000000 in
set_option maxRecDepth 100000 in
theorem nx3 {T : Nat} {M : XM} (h : vRel T M) : vRel T (xnx3 M) := by
  unfold xnx3 G_L_start
  have hR := h
  obtain ⟨⟨a0, a0r, a1', a1r, a2, a2r, a3, a3r, a8, a9, a12, a13, a19, aT, aP⟩, b1, b2, b3, b4, b5, b6, b7, b8, b9, b10, b11, b12, b13, b14, b15⟩ := h
  have thrown : vRel T (xmix M (ap_R_start M (F_R_start_k3 M 1))) := by
    unfold F_R_start_k3 F_R_start_k4
    rw [thr_1 M 1 (by decide), if_neg (show ¬ ((1, 1) : Int32 × Int32).1 = 0 by decide)]
    exact rel_mix (X := M) (Y := ap_R_start M (1, M.1 110, M.1 111, M.2.1 105, M.2.1 106, M.1 114, M.1 116, M.1 112, M.1 113, M.2.1 104, M.2.1 107)) hR.1 hR.2
  have hlk : F_Lid_locked M = F_R_isLocked M := by unfold F_Lid_locked F_R_isLocked; rw [a8, a9]
  have eT : T_U_start M = if M.1 109 = 0 then 2 else if M.1 110 = 0 then (if M.1 102 = 0 then 2 else if F_R_isLocked M = 0 then 2 else 0) else 2 := by
    unfold T_U_start T_U_start_k1 T_U_start_k2 F_Control_takesOrders
    rw [a12, b1, a1', hlk]
    by_cases g : M.1 109 = 0 <;> by_cases g2 : M.1 110 = 0 <;> by_cases g3 : M.1 102 = 0 <;> by_cases g4 : F_R_isLocked M = 0 <;> simp [g, g2, g3, g4]
  have eR : F_R_start_j2 M = if M.1 109 = 0 then 1 else if M.1 110 = 0 then (if M.1 102 = 0 then 1 else if F_R_isLocked M = 0 then 1 else 0) else 1 := by
    unfold F_R_start_j2 F_R_start_k1
    rfl
  unfold F_R_start
  rw [eT, eR]
  by_cases g : M.1 109 = 0
  · rw [if_pos g, if_pos g, if_neg (show ¬ (2 : Nat) = 0 by decide)]; exact thrown
  rw [if_neg g, if_neg g]
  by_cases g2 : M.1 110 = 0
  · rw [if_pos g2, if_pos g2]
    by_cases g3 : M.1 102 = 0
    · rw [if_pos g3, if_pos g3, if_neg (show ¬ (2 : Nat) = 0 by decide)]; exact thrown
    rw [if_neg g3, if_neg g3]
    by_cases g4 : F_R_isLocked M = 0
    · rw [if_pos g4, if_pos g4, if_neg (show ¬ (2 : Nat) = 0 by decide)]; exact thrown
    rw [if_neg g4, if_neg g4, if_pos rfl]
    have eF : F_U_start M = (0, 0, -1, 0, 0, 0, 0, 0, 0, 1) := by
      unfold F_U_start F_U_start_k1 F_U_start_k2 F_U_start_k3 F_Control_takesOrders F_Control_beginRun F_Control_beginRun_k1 F_Run_begin
      rw [a12, b1, a1', hlk, if_neg g, if_pos g2, if_neg (show ¬ (1 : Int32) = 0 by decide), if_neg g3, if_neg g4]
    have eQ : F_R_start_k3 M 0 = (0, 1, 0, 0, 0, 0, -1, 0, 0, 0, 0) := by
      unfold F_R_start_k3 F_R_start_k4
      rw [thr_0, if_pos rfl]
    rw [eF, eQ]
    have d0 : 0 ≤ (0 : Int32).toInt ∧ (0 : Int32).toInt ≤ 100000 := by decide
    have hc : 0 < (M.1 102).toInt := by
      have : ¬ (M.1 102).toInt = 0 := fun q => g3 (n_eq32 (by rw [q, i0]))
      omega
    obtain ⟨-, -, -, sv⟩ := aP 0 hc
    have hrun : vRun M 0 0 := by
      refine ⟨⟨by decide, by rw [i0]; exact hc⟩, fun q => ⟨by decide, ?_⟩⟩
      have q' : M.2.2.1 26 0 = 1 := q
      show (0 : Int32).toInt < (M.2.2.1 27 0).toInt
      rw [i0]
      rcases sv with ⟨k0, -⟩ | ⟨k0, ka⟩ | ⟨k0, -⟩ | ⟨k0, -⟩ | ⟨k0, -⟩
      · rw [k0] at q'; exact absurd q' (by decide)
      · omega
      · rw [k0] at q'; exact absurd q' (by decide)
      · rw [k0] at q'; exact absurd q' (by decide)
      · rw [k0] at q'; exact absurd q' (by decide)
    exact rel_mix (X := ap_U_start M (0, 0, -1, 0, 0, 0, 0, 0, 0, 1)) (Y := ap_R_start M (0, 1, 0, 0, 0, 0, -1, 0, 0, 0, 0)) ⟨a0, a0r, a1', a1r, a2, a2r, a3, a3r, a8, a9, a12, a13, a19, aT, aP⟩ ⟨rfl, Or.inr (Or.inl rfl), rfl, b4, ⟨rfl, Or.inl rfl⟩, b6, rfl, rfl, ⟨rfl, d0⟩, rfl, b11, b12, fun _ => ⟨rfl, hrun⟩, fun _ => ⟨rfl, rfl, Or.inl ⟨rfl, rfl⟩⟩, b15⟩
  · rw [if_neg g2, if_neg g2, if_neg (show ¬ (2 : Nat) = 0 by decide)]; exact thrown
/-! rotor, segment -/
theorem up_s (f : Nat → Int32) (k : Nat) (x : Int32) : upd f k x k = x := by unfold upd; rw [if_pos rfl]
theorem up_n (f : Nat → Int32) {k j : Nat} (x : Int32) (h : ¬ j = k) : upd f k x j = f j := by unfold upd; rw [if_neg h]
theorem an_none {M : XM} (hT : vRT M M) {a1 a2 : Int32} (h1 : 0 ≤ a1.toInt ∧ a1.toInt ≤ 3) (hp : ¬ a2 = -1) (h : F_Rotors_anotherHas M a1 a2 = 0) {j : Nat} (hj : j < 4) (hj2 : M.2.2.1 2 j = a2) : j = a1.toNatClampNeg := by
  unfold F_Rotors_anotherHas F_Rotors_anotherHas_k1 at h
  rcases wp_spec M a2 with w | ⟨k, hk, w, hk2, -⟩
  · exfalso
    unfold F_Rotors_withPattern at w
    rw [if_neg hp] at w
    match j, hj with
    | 0, _ => rw [if_pos hj2] at w; exact absurd w (by decide)
    | 1, _ =>
      by_cases q0 : M.2.2.1 2 0 = a2
      · rw [if_pos q0] at w; exact absurd w (by decide)
      · rw [if_neg q0, if_pos hj2] at w; exact absurd w (by decide)
    | 2, _ =>
      by_cases q0 : M.2.2.1 2 0 = a2
      · rw [if_pos q0] at w; exact absurd w (by decide)
      · by_cases q1 : M.2.2.1 2 1 = a2
        · rw [if_neg q0, if_pos q1] at w; exact absurd w (by decide)
        · rw [if_neg q0, if_neg q1, if_pos hj2] at w; exact absurd w (by decide)
    | 3, _ =>
      by_cases q0 : M.2.2.1 2 0 = a2
      · rw [if_pos q0] at w; exact absurd w (by decide)
      · by_cases q1 : M.2.2.1 2 1 = a2
        · rw [if_neg q0, if_pos q1] at w; exact absurd w (by decide)
        · by_cases q2 : M.2.2.1 2 2 = a2
          · rw [if_neg q0, if_neg q1, if_pos q2] at w; exact absurd w (by decide)
          · rw [if_neg q0, if_neg q1, if_neg q2, if_pos hj2] at w; exact absurd w (by decide)
  · have kl : k < 2 ^ 31 := by omega
    have ki : (nI k).toInt = k := nI_toInt kl
    have kn : ¬ nI k = -1 := fun g => by
      rw [g, im1] at ki
      omega
    rw [w, if_neg kn] at h
    by_cases q : nI k = a1
    · have e := hT.2 j k hj hk (by rw [hj2]; exact hp) (by rw [hj2, hk2])
      rw [e, ← q, nI_clamp kl]
    · rw [if_neg q] at h; exact absurd h (by decide)
set_option maxHeartbeats 4000000 in
set_option maxRecDepth 100000 in
theorem rt_keep {M : XM} (hT : vRT M M) {a1 a2 a3 a4 a5 : Int32} (h1 : 0 ≤ a1.toInt ∧ a1.toInt ≤ 3) (h2 : 0 ≤ a2.toInt ∧ a2.toInt ≤ 255) (h3 : 10 ≤ a3.toInt ∧ a3.toInt ≤ 300) (h4 : 100 ≤ a4.toInt ∧ a4.toInt ≤ 20000) (h5 : 1 ≤ a5.toInt ∧ a5.toInt ≤ 1000) (ha : F_Rotors_anotherHas M a1 a2 = 0) : vRT (ap_U_rotor M (upd (M.2.2.1 2) a1.toNatClampNeg a2, upd (M.2.2.1 3) a1.toNatClampNeg a3, upd (M.2.2.1 4) a1.toNatClampNeg a4, upd (M.2.2.1 5) a1.toNatClampNeg a5)) (ap_R_rotor M (0, upd (M.2.2.1 21) a1.toNatClampNeg 1, upd (M.2.2.1 22) a1.toNatClampNeg a2, upd (M.2.2.1 23) a1.toNatClampNeg a3, upd (M.2.2.1 24) a1.toNatClampNeg a4, upd (M.2.2.1 25) a1.toNatClampNeg a5)) := by
  have hp : ¬ a2 = -1 := fun q => by rw [q, im1] at h2; omega
  refine ⟨fun k hk => ?_, fun j k hj hk n e => ?_⟩
  · show (upd (M.2.2.1 21) a1.toNatClampNeg 1 k = 0 ∧ upd (M.2.2.1 2) a1.toNatClampNeg a2 k = -1 ∧ upd (M.2.2.1 5) a1.toNatClampNeg a5 k = 100) ∨ (¬ upd (M.2.2.1 21) a1.toNatClampNeg 1 k = 0 ∧ 0 ≤ (upd (M.2.2.1 2) a1.toNatClampNeg a2 k).toInt ∧ upd (M.2.2.1 2) a1.toNatClampNeg a2 k = upd (M.2.2.1 22) a1.toNatClampNeg a2 k ∧ upd (M.2.2.1 3) a1.toNatClampNeg a3 k = upd (M.2.2.1 23) a1.toNatClampNeg a3 k ∧ upd (M.2.2.1 4) a1.toNatClampNeg a4 k = upd (M.2.2.1 24) a1.toNatClampNeg a4 k ∧ upd (M.2.2.1 5) a1.toNatClampNeg a5 k = upd (M.2.2.1 25) a1.toNatClampNeg a5 k ∧ (10 ≤ (upd (M.2.2.1 23) a1.toNatClampNeg a3 k).toInt ∧ (upd (M.2.2.1 23) a1.toNatClampNeg a3 k).toInt ≤ 300) ∧ (100 ≤ (upd (M.2.2.1 24) a1.toNatClampNeg a4 k).toInt ∧ (upd (M.2.2.1 24) a1.toNatClampNeg a4 k).toInt ≤ 20000) ∧ (1 ≤ (upd (M.2.2.1 25) a1.toNatClampNeg a5 k).toInt ∧ (upd (M.2.2.1 25) a1.toNatClampNeg a5 k).toInt ≤ 1000))
    by_cases q : k = a1.toNatClampNeg
    · subst q
      simp only [up_s]
      exact Or.inr ⟨by decide, h2.1, trivial, trivial, trivial, trivial, h3, h4, h5⟩
    · simp only [up_n _ _ q]
      exact hT.1 k hk
  · have n' : ¬ upd (M.2.2.1 2) a1.toNatClampNeg a2 j = -1 := n
    have e' : upd (M.2.2.1 2) a1.toNatClampNeg a2 j = upd (M.2.2.1 2) a1.toNatClampNeg a2 k := e
    by_cases q : j = a1.toNatClampNeg
    · by_cases r : k = a1.toNatClampNeg
      · rw [q, r]
      · rw [up_n _ _ r, q, up_s] at e'
        exact absurd (an_none hT h1 hp ha hk e'.symm) r
    · rw [up_n _ _ q] at n' e'
      by_cases r : k = a1.toNatClampNeg
      · rw [r, up_s] at e'
        exact absurd (an_none hT h1 hp ha hj e') q
      · rw [up_n _ _ r] at e'
        exact hT.2 j k hj hk n' e'


