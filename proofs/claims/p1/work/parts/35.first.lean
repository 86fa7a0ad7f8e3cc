theorem rest_idle (N : XM) (h : N.1 14 = 0) : (F_Control_comeToRest N).2.2.2.2.2.2 = 0 := by
  unfold F_Control_comeToRest
  rw [h, if_neg (by decide), if_neg (by decide)]
theorem foll_idle (N : XM) (h : N.1 14 = 0) : (F_Control_followProgram N).2.2.1 = 0 := by
  unfold F_Control_followProgram
  rw [h, if_neg (by decide)]
theorem fault_idle (N : XM) (h : N.1 14 = 0) : (F_Control_lookForFault N).1 = 0 := by
  unfold F_Control_lookForFault F_Control_turning F_Control_lookForFault_k1
  rw [h]; rfl
theorem ord_idle (M : XM) (h : M.1 14 = 0) : (F_Control_order M).2.2.2.2.2.2.2.2.2.2.2.2.2.2.1 = 0 := by
  unfold F_Control_order
  by_cases g : M.1 12 = 0
  · rw [if_pos g]; exact h
  · rw [if_neg g]
    generalize F_Control_readSensors _ = u2
    unfold F_Control_order_k1
    have e3 : (F_Control_lookForFault ((va_up (va_up (va_up (va_up (va_up (va_up (va_up (va_up (va_up (va_up (va_up (va_up (va_up M.1 16 0) 17 0) 18 0) 4 (u2.1)) 5 (u2.2.1)) 6 (u2.2.2.1)) 7 (u2.2.2.2.1)) 20 (u2.2.2.2.2.1)) 21 (u2.2.2.2.2.2.1)) 22 (u2.2.2.2.2.2.2.1)) 24 (u2.2.2.2.2.2.2.2.2.1)) 23 (u2.2.2.2.2.2.2.2.2.2.1)) 25 (u2.2.2.2.2.2.2.2.2.2.2)), (va_up M.2.1 2 (u2.2.2.2.2.2.2.2.1)), M.2.2)).1 = 0 := fault_idle _ h
    generalize F_Control_lookForFault _ = u3 at e3
    unfold F_Control_order_k2
    generalize F_Control_addDose _ = u4
    unfold F_Control_order_k3
    have e5 : (F_Control_followProgram ((va_up (va_up (va_up (va_up (va_up (va_up (va_up (va_up (va_up (va_up (va_up (va_up M.1 16 0) 17 0) 18 0) 4 (u2.1)) 5 (u2.2.1)) 6 (u2.2.2.1)) 7 (u2.2.2.2.1)) 24 (u2.2.2.2.2.2.2.2.2.1)) 23 (u2.2.2.2.2.2.2.2.2.2.1)) 25 (u2.2.2.2.2.2.2.2.2.2.2)) 14 (u3.1)) 15 (u3.2)), (va_up (va_up M.2.1 2 (u2.2.2.2.2.2.2.2.1)) 1 u4), M.2.2)).2.2.1 = 0 := foll_idle _ e3
    generalize F_Control_followProgram _ = u5 at e5
    unfold F_Control_order_k4 F_Control_order_k5 F_Control_order_k6
    exact rest_idle _ e5
theorem U_idle (M : XM) (h : M.1 14 = 0) : (xst_U_tick M).1 14 = 0 := ord_idle M h
theorem U_idles (M : XM) (h : M.1 14 = 0) : ∀ n, (xit_U_tick M n).1 14 = 0
  | 0 => h
  | n + 1 => U_idle _ (U_idles M h n)
theorem sense_idle (M : XM) (h : M.1 110 = 0) : (F_R_sense M).2.2.2.2.2.2.2.2.2.2.2 = M.1 116 := by
  unfold F_R_sense F_R_sense_k2 F_R_sense_k4 F_R_sense_k6 F_R_sense_k8 F_R_sense_k10 F_R_sense_k12 F_R_sense_k14 F_R_sense_k16 F_R_sense_k18 F_R_sense_k20
  generalize F_R_sense_j1 M = j1
  generalize F_R_sense_j3 M _ = j3
  generalize F_R_sense_j5 M _ _ = j5
  generalize F_R_sense_j7 M _ _ _ = j7
  generalize F_R_sense_j9 M _ _ _ _ = j9
  generalize F_R_sense_j11 M _ _ _ _ _ = j11
  generalize F_R_sense_j13 M _ _ _ _ _ _ = j13
  generalize F_R_sense_j15 M _ _ _ _ _ _ _ = j15
  generalize F_R_sense_j17 M _ _ _ _ _ _ _ _ = j17
  generalize F_R_sense_j19 M _ _ _ _ _ _ _ _ _ = j19
  generalize F_R_sense_j23 M _ _ _ _ _ _ _ _ _ _ = j23
  unfold F_R_sense_k24
  rw [h]
  by_cases q : 0 ≤ lg_cmp (M.2.1 106 + j11) 300000
  · rw [if_pos q, if_neg (by decide), if_neg (by decide)]
  · rw [if_neg q]
/-- the reference idle with nothing inside -/
def xRI0 (M : XM) : Prop := M.1 101 < 0 ∧ M.1 116 < 4 ∧ M.1 110 = 0 ∧ 0 ≤ M.1 125 ∧ M.1 100 = 0
theorem xRI0_I {M : XM} (h : xRI0 M) : xRI M := by
  obtain ⟨h1, h2, h3, h4, h5⟩ := h
  refine ⟨?_, ?_, fun q => ?_, h4, fun q => absurd h1 q⟩
  · rw [Int32.lt_iff_toInt_lt] at h1 ⊢
    rw [show (0 : Int32).toInt = 0 by decide] at h1
    rw [show (4 : Int32).toInt = 4 by decide]
    omega
  · rw [sense_idle M h3]; exact h2
  · rw [h3] at q; exact absurd q (by decide)
theorem ctl_idle (M : XM) (h : M.1 110 = 0) : (F_R_control M).2.2.2.2.2.2.2.2.2.2.2.1 = M.1 116 ∧ (F_R_control M).2.2.2.2.2.2.2.2.2.2.2.2.1 = 0 ∧ (F_R_control M).2.2.2.2.2.2.2.2.2.2.2.2.2.2.2.2.2.2.2.2.2.2.2.1 = M.1 125 := by
  unfold F_R_control F_R_control_k1
  have e := sense_idle M h
  generalize F_R_sense M = u1 at e
  have e4 : F_R_control_j4 M u1 = (M.1 110, M.1 111) := by
    unfold F_R_control_j4
    rw [if_neg (by rw [h]; decide), if_neg (by rw [h]; decide)]
  rw [e4]
  unfold F_R_control_k5
  have e11 : (F_R_control_j11 M u1 (M.1 110, M.1 111)).1 = 0 := by
    unfold F_R_control_j11
    rw [if_neg (by show ¬ M.1 110 = 1; rw [h]; decide)]
    exact h
  generalize F_R_control_j11 M u1 (M.1 110, M.1 111) = j4 at e11
  unfold F_R_control_k12
  have e17 : (F_R_control_j17 M u1 (M.1 110, M.1 111) j4).1 = 0 ∧ (F_R_control_j17 M u1 (M.1 110, M.1 111) j4).2.2.2.2.2.2 = M.1 125 := by
    unfold F_R_control_j17
    rw [if_neg (by rw [e11]; decide), if_neg (by rw [e11]; decide)]
    exact ⟨e11, rfl⟩
  generalize F_R_control_j17 M u1 (M.1 110, M.1 111) j4 = j6 at e17
  unfold F_R_control_k18 F_R_control_k20 F_R_control_k22
  exact ⟨e, e17.1, e17.2⟩
theorem apR_116 (M : XM) (u : (Int64 × Int64 × Int64 × Int32 × Int32 × Int32 × Int64 × Int64 × Int32 × Int32 × Int32 × Int32 × Int32 × Int32 × Int32 × Int32 × Int64 × Int32 × Int64 × Int32 × (Nat → Int64) × (Nat → Int64) × (Nat → Int64) × Int32 × Int32 × Int32 × Int64)) : (ap_R_tick M u).1 116 = u.2.2.2.2.2.2.2.2.2.2.2.1 := rfl
theorem apR_110 (M : XM) (u : (Int64 × Int64 × Int64 × Int32 × Int32 × Int32 × Int64 × Int64 × Int32 × Int32 × Int32 × Int32 × Int32 × Int32 × Int32 × Int32 × Int64 × Int32 × Int64 × Int32 × (Nat → Int64) × (Nat → Int64) × (Nat → Int64) × Int32 × Int32 × Int32 × Int64)) : (ap_R_tick M u).1 110 = u.2.2.2.2.2.2.2.2.2.2.2.2.1 := rfl
theorem apR_125 (M : XM) (u : (Int64 × Int64 × Int64 × Int32 × Int32 × Int32 × Int64 × Int64 × Int32 × Int32 × Int32 × Int32 × Int32 × Int32 × Int32 × Int32 × Int64 × Int32 × Int64 × Int32 × (Nat → Int64) × (Nat → Int64) × (Nat → Int64) × Int32 × Int32 × Int32 × Int64)) : (ap_R_tick M u).1 125 = u.2.2.2.2.2.2.2.2.2.2.2.2.2.2.2.2.2.2.2.2.2.2.2.1 := rfl
theorem apR_101 (M : XM) (u : (Int64 × Int64 × Int64 × Int32 × Int32 × Int32 × Int64 × Int64 × Int32 × Int32 × Int32 × Int32 × Int32 × Int32 × Int32 × Int32 × Int64 × Int32 × Int64 × Int32 × (Nat → Int64) × (Nat → Int64) × (Nat → Int64) × Int32 × Int32 × Int32 × Int64)) : (ap_R_tick M u).1 101 = M.1 101 := rfl
theorem apR_100 (M : XM) (u : (Int64 × Int64 × Int64 × Int32 × Int32 × Int32 × Int64 × Int64 × Int32 × Int32 × Int32 × Int32 × Int32 × Int32 × Int32 × Int32 × Int64 × Int32 × Int64 × Int32 × (Nat → Int64) × (Nat → Int64) × (Nat → Int64) × Int32 × Int32 × Int32 × Int64)) : (ap_R_tick M u).1 100 = M.1 100 := rfl
theorem tb_j2 (M : XM) (h : M.1 110 = 0) : (F_R_tick_b_j2 M).2.2.2.2.2.2.2.2.2.2.2.1 = M.1 116 ∧ (F_R_tick_b_j2 M).2.2.2.2.2.2.2.2.2.2.2.2.1 = 0 ∧ (F_R_tick_b_j2 M).2.2.2.2.2.2.2.2.2.2.2.2.2.2.2.2.2.2.2.2.2.2.2.1 = M.1 125 := by
  unfold F_R_tick_b_j2
  by_cases g : M.1 109 = 0
  · rw [if_pos g]; exact ⟨rfl, h, rfl⟩
  · rw [if_neg g]
    have e := ctl_idle M h
    generalize F_R_control M = u at e
    exact e
theorem R_idle (M : XM) (h : xRI0 M) : xRI0 (xst_R_tick M) := by
  obtain ⟨h1, h2, h3, h4, h5⟩ := h
  have e := tb_j2 M h3
  unfold xst_R_tick S_R_tick F_R_tick_b_k3
  generalize F_R_tick_b_j2 M = j1 at e
  generalize F_R_move _ = u3
  unfold xRI0
  rw [apR_116, apR_110, apR_125, apR_101, apR_100]
  unfold F_R_tick_b_k4
  refine ⟨h1, ?_, e.2.1, ?_, h5⟩
  · have q : j1.2.2.2.2.2.2.2.2.2.2.2.1 < 4 := by rw [e.1]; exact h2
    exact q
  · have q : 0 ≤ j1.2.2.2.2.2.2.2.2.2.2.2.2.2.2.2.2.2.2.2.2.2.2.2.1 := by rw [e.2.2]; exact h4
    exact q
theorem R_idles (M : XM) (h : xRI0 M) : ∀ n, xRI0 (xit_R_tick M n)
  | 0 => h
  | n + 1 => R_idle _ (R_idles M h n)
theorem ok11_0 (M : XM) (a1 : Int32) (h : M.1 1 ≤ 12) (hU : M.1 14 = 0) (hR : xRI0 (va_up M.1 100 0, M.2)) : xOK11 M a1 := by
  refine ⟨h, fun _ j _ => xRI0_I (R_idles _ hR j), ?_⟩
  have hT : T_U_tick M a1 = if F_R_in M a1.toInt64 1 2000 = 0 then 1 else 0 := by
    unfold T_U_tick T_U_tick_k1
    rw [xin_w M M a1 1 2000 1 2000 (by decide) (by decide)]
  by_cases g : F_R_in M a1.toInt64 1 2000 = 0
  · have e1 : F_R_tickA M a1 = (0, (va_up M.1 100 1, M.2)) := by unfold F_R_tickA; rw [if_pos g]
    have e2 : G_L_tick M a1 = (1, M) := by unfold G_L_tick; rw [hT, if_pos g, if_neg (by decide)]
    rw [e1, e2]
    exact ⟨rfl, fun (q : (1 : Int32) = 0) => absurd q (by decide)⟩
  · have e1 : F_R_tickA M a1 = ((xit_R_tick (va_up M.1 100 0, M.2) a1.toNatClampNeg).1 110, xit_R_tick (va_up M.1 100 0, M.2) a1.toNatClampNeg) := by unfold F_R_tickA; rw [if_neg g]
    have e2 : G_L_tick M a1 = (0, (xout (xit_U_tick M a1.toNatClampNeg) M (((xit_U_tick M a1.toNatClampNeg).1 14)).toInt64)) := by unfold G_L_tick; rw [hT, if_neg g, if_pos rfl]
    rw [e1, e2, U_idles M hU]
    obtain ⟨-, -, r3, -, r5⟩ := R_idles _ hR a1.toNatClampNeg
    refine ⟨r5, fun _ => ?_⟩
    show _ = Int32.toInt64 ((xit_R_tick (va_up M.1 100 0, M.2) a1.toNatClampNeg).1 110)
    rw [r3]
    rfl
theorem ok_first (op a1 a2 a3 a4 a5 : Int32) : xOK xMS op a1 a2 a3 a4 a5 := by
  refine ⟨fun _ => ok0 _ _ _ _ _ _ rfl rfl ?_, fun _ => ok1 _ _, fun _ => ok2 _ _ _ _ rfl rfl rfl (by decide) (by decide), fun _ => ok3 _ rfl rfl rfl rfl rfl, fun _ => ok4 _ rfl rfl, fun _ => ok5 _ rfl rfl rfl, fun _ => ok6 _ _ _, fun _ => ok7 _ _, fun _ => ok8 _ _, fun _ => ok9 _ _ _, fun _ => ok10 _ _ rfl, fun _ => ok11_0 _ _ (by decide) rfl ⟨by decide, by decide, rfl, by decide, rfl⟩, fun _ => ok12 _ _ rfl rfl (fun _ => rfl) rfl rfl rfl (by decide) (by decide) rfl (by decide) rfl (by decide), fun _ => ok13 _ rfl, fun _ => ok14 _ (by decide) rfl (by decide) (fun h => absurd h (by decide)), fun _ => ok15 _ rfl, fun _ => ok16 _ _ _ rfl (by decide) (fun k _ => ⟨rfl, rfl, rfl⟩)⟩
  refine ⟨fun k hk => ?_, fun j k hj hk h => ?_⟩
  · left
    match k, hk with
    | 0, _ => exact ⟨rfl, rfl, rfl⟩
    | 1, _ => exact ⟨rfl, rfl, rfl⟩
    | 2, _ => exact ⟨rfl, rfl, rfl⟩
    | 3, _ => exact ⟨rfl, rfl, rfl⟩
  · exfalso
    apply h
    match j, hj with
    | 0, _ => exact rfl
    | 1, _ => exact rfl
    | 2, _ => exact rfl
    | 3, _ => exact rfl


