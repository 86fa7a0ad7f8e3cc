def xnx0 (M : XM) (a1 : Int32) (a2 : Int32) (a3 : Int32) (a4 : Int32) (a5 : Int32) : XM := (xmix (G_L_rotor M a1 a2 a3 a4 a5).2 (ap_R_rotor M (F_R_rotor M a1 a2 a3 a4 a5)))
def xOK0 (M : XM) (a1 : Int32) (a2 : Int32) (a3 : Int32) (a4 : Int32) (a5 : Int32) : Prop := F_R_thrown (ap_R_rotor M (F_R_rotor M a1 a2 a3 a4 a5)) = (G_L_rotor M a1 a2 a3 a4 a5).1
def xNK0 (M : XM) (a1 : Int32) (a2 : Int32) (a3 : Int32) (a4 : Int32) (a5 : Int32) : Prop := True
def xnx1 (M : XM) (a1 : Int32) : XM := (xmix (G_L_put M a1).2 (ap_R_put M (F_R_put M a1)))
def xOK1 (M : XM) (a1 : Int32) : Prop := F_R_thrown (ap_R_put M (F_R_put M a1)) = (G_L_put M a1).1
def xNK1 (M : XM) (a1 : Int32) : Prop := True
def xnx2 (M : XM) (a1 : Int32) (a2 : Int32) (a3 : Int32) : XM := (xmix (G_L_segment M a1 a2 a3).2 (ap_R_segment M (F_R_segment M a1 a2 a3).2))
def xOK2 (M : XM) (a1 : Int32) (a2 : Int32) (a3 : Int32) : Prop := 0 ≤ M.1 1 ∧ 0 ≤ M.1 102 ∧ M.1 102 ≤ 12 ∧ F_R_thrown (ap_R_segment M (F_R_segment M a1 a2 a3).2) = (G_L_segment M a1 a2 a3).1 ∧ ((G_L_segment M a1 a2 a3).1 = 0 → ((G_L_segment M a1 a2 a3).2.2.2.2 32) 0 = (F_R_segment M a1 a2 a3).1.toInt64)
def xNK2 (M : XM) (a1 : Int32) (a2 : Int32) (a3 : Int32) : Prop := 0 ≤ M.1 1 ∧ 0 ≤ M.1 102 ∧ M.1 102 ≤ 12
def xnx3 (M : XM) : XM := (xmix (G_L_start M).2 (ap_R_start M (F_R_start M)))
def xOK3 (M : XM) : Prop := F_R_thrown (ap_R_start M (F_R_start M)) = (G_L_start M).1
def xNK3 (M : XM) : Prop := True
def xnx4 (M : XM) : XM := (xmix (G_L_stop M).2 (ap_R_stop M (F_R_stop M)))
def xOK4 (M : XM) : Prop := F_R_thrown (ap_R_stop M (F_R_stop M)) = (G_L_stop M).1
def xNK4 (M : XM) : Prop := True
def xnx5 (M : XM) : XM := (xmix (G_L_open M).2 (ap_R_open M (F_R_open M)))
def xOK5 (M : XM) : Prop := F_R_thrown (ap_R_open M (F_R_open M)) = (G_L_open M).1
def xNK5 (M : XM) : Prop := True
def xnx6 (M : XM) (a1 : Int32) (a2 : Int32) : XM := (xmix (ap_U_bolt M (F_U_bolt M (xnz a1) (xnz a2))) (ap_R_bolt M (F_R_bolt M (xnz a1) (xnz a2))))
def xOK6 (M : XM) (a1 : Int32) (a2 : Int32) : Prop := True
def xnx7 (M : XM) (a1 : Int32) : XM := (xmix (G_L_shake M a1).2 (ap_R_shake M (F_R_shake M a1)))
def xOK7 (M : XM) (a1 : Int32) : Prop := F_R_thrown (ap_R_shake M (F_R_shake M a1)) = (G_L_shake M a1).1
def xNK7 (M : XM) (a1 : Int32) : Prop := True
def xnx8 (M : XM) (a1 : Int32) : XM := (xmix (G_L_chamber M a1).2 (ap_R_chamber M (F_R_chamber M a1)))
def xOK8 (M : XM) (a1 : Int32) : Prop := F_R_thrown (ap_R_chamber M (F_R_chamber M a1)) = (G_L_chamber M a1).1
def xNK8 (M : XM) (a1 : Int32) : Prop := True
def xnx9 (M : XM) (a1 : Int32) (a2 : Int32) : XM := (xmix (G_L_fail M a1 a2).2 (ap_R_fail M (F_R_fail M a1 a2)))
def xOK9 (M : XM) (a1 : Int32) (a2 : Int32) : Prop := F_R_thrown (ap_R_fail M (F_R_fail M a1 a2)) = (G_L_fail M a1 a2).1
def xNK9 (M : XM) (a1 : Int32) (a2 : Int32) : Prop := True
def xnx10 (M : XM) (a1 : Int32) : XM := (xmix (G_L_power M (xnz a1)).2 (ap_R_power M (F_R_power M (xnz a1))))
def xOK10 (M : XM) (a1 : Int32) : Prop := F_R_thrown (ap_R_power M (F_R_power M (xnz a1))) = (G_L_power M (xnz a1)).1
def xNK10 (M : XM) (a1 : Int32) : Prop := True
def xnx11 (M : XM) (a1 : Int32) : XM := (xmix (G_L_tick M a1).2 (ap_R_tickA M (F_R_tickA M a1).2))
def xOK11 (M : XM) (a1 : Int32) : Prop := M.1 1 ≤ 12 ∧ (¬ F_R_in M a1.toInt64 1 2000 = 0 → ∀ j, j < a1.toNatClampNeg → xRI (xit_R_tick (va_up M.1 100 0, M.2) j)) ∧ F_R_thrown (ap_R_tickA M (F_R_tickA M a1).2) = (G_L_tick M a1).1 ∧ ((G_L_tick M a1).1 = 0 → ((G_L_tick M a1).2.2.2.2 32) 0 = (F_R_tickA M a1).1.toInt64)
def xNK11 (M : XM) (a1 : Int32) : Prop := M.1 1 ≤ 12 ∧ (¬ F_R_in M a1.toInt64 1 2000 = 0 → ∀ j, j < a1.toNatClampNeg → xRI (xit_R_tick (va_up M.1 100 0, M.2) j))
def xnx12 (M : XM) (a1 : Int32) : XM := (xmix (G_L_look M a1).2 (ap_R_look M (F_R_look M a1).2))
def xOK12 (M : XM) (a1 : Int32) : Prop := F_R_thrown (ap_R_look M (F_R_look M a1).2) = (G_L_look M a1).1 ∧ ((G_L_look M a1).1 = 0 → ((G_L_look M a1).2.2.2.2 32) 0 = (F_R_look M a1).1.toInt64)
def xNK12 (M : XM) (a1 : Int32) : Prop := True
def xnx13 (M : XM) : XM := (xmix M (ap_R_dose M (F_R_dose M).2))
def xOK13 (M : XM) : Prop := F_U_dose M = (F_R_dose M).1
def xNK13 (M : XM) : Prop := True
def xnx14 (M : XM) : XM := (xmix M (ap_R_force M (F_R_force M).2))
def xOK14 (M : XM) : Prop := M.1 116 < 4 ∧ F_U_force M = (F_R_force M).1
def xNK14 (M : XM) : Prop := M.1 116 < 4
def xnx15 (M : XM) : XM := (xmix M (ap_R_plant M (F_R_plant M).2))
def xOK15 (M : XM) : Prop := F_U_plant M = (F_R_plant M).1
def xNK15 (M : XM) : Prop := True
def xnx16 (M : XM) (a1 : Int32) (a2 : Int32) : XM := (xmix (G_L_record M a1 a2).2 (ap_R_record M (F_R_record M a1 a2).2))
def xOK16 (M : XM) (a1 : Int32) (a2 : Int32) : Prop := F_R_thrown (ap_R_record M (F_R_record M a1 a2).2) = (G_L_record M a1 a2).1 ∧ ((G_L_record M a1 a2).1 = 0 → ((G_L_record M a1 a2).2.2.2.2 32) 0 = (F_R_record M a1 a2).1)
def xOK (M : XM) (op : Int32) (a1 a2 a3 a4 a5 : Int32) : Prop := (op = 0 → xNK0 M a1 a2 a3 a4 a5) ∧ (op = 1 → xNK1 M a1) ∧ (op = 2 → xNK2 M a1 a2 a3) ∧ (op = 3 → xNK3 M) ∧ (op = 4 → xNK4 M) ∧ (op = 5 → xNK5 M) ∧ (op = 6 → xOK6 M a1 a2) ∧ (op = 7 → xNK7 M a1) ∧ (op = 8 → xNK8 M a1) ∧ (op = 9 → xNK9 M a1 a2) ∧ (op = 10 → xNK10 M a1) ∧ (op = 11 → xNK11 M a1) ∧ (op = 12 → xNK12 M a1) ∧ (op = 13 → xNK13 M) ∧ (op = 14 → xNK14 M) ∧ (op = 15 → xNK15 M) ∧ (op = 16 → xOK16 M a1 a2)
def xnx (M : XM) (op : Int32) (a1 a2 a3 a4 a5 : Int32) : XM := if op = 0 then xnx0 M a1 a2 a3 a4 a5 else if op = 1 then xnx1 M a1 else if op = 2 then xnx2 M a1 a2 a3 else if op = 3 then xnx3 M else if op = 4 then xnx4 M else if op = 5 then xnx5 M else if op = 6 then xnx6 M a1 a2 else if op = 7 then xnx7 M a1 else if op = 8 then xnx8 M a1 else if op = 9 then xnx9 M a1 a2 else if op = 10 then xnx10 M a1 else if op = 11 then xnx11 M a1 else if op = 12 then xnx12 M a1 else if op = 13 then xnx13 M else if op = 14 then xnx14 M else if op = 15 then xnx15 M else if op = 16 then xnx16 M a1 a2 else M
theorem xnx_0 (M : XM) (a1 a2 a3 a4 a5 : Int32) : xnx M 0 a1 a2 a3 a4 a5 = xnx0 M a1 a2 a3 a4 a5 := by
  rw [xnx, if_pos rfl]
theorem xnx_1 (M : XM) (a1 a2 a3 a4 a5 : Int32) : xnx M 1 a1 a2 a3 a4 a5 = xnx1 M a1 := by
  rw [xnx, if_neg (by decide : ¬ (1 : Int32) = 0), if_pos rfl]
theorem xnx_2 (M : XM) (a1 a2 a3 a4 a5 : Int32) : xnx M 2 a1 a2 a3 a4 a5 = xnx2 M a1 a2 a3 := by
  rw [xnx, if_neg (by decide : ¬ (2 : Int32) = 0), if_neg (by decide : ¬ (2 : Int32) = 1), if_pos rfl]
theorem xnx_3 (M : XM) (a1 a2 a3 a4 a5 : Int32) : xnx M 3 a1 a2 a3 a4 a5 = xnx3 M := by
  rw [xnx, if_neg (by decide : ¬ (3 : Int32) = 0), if_neg (by decide : ¬ (3 : Int32) = 1), if_neg (by decide : ¬ (3 : Int32) = 2), if_pos rfl]
theorem xnx_4 (M : XM) (a1 a2 a3 a4 a5 : Int32) : xnx M 4 a1 a2 a3 a4 a5 = xnx4 M := by
  rw [xnx, if_neg (by decide : ¬ (4 : Int32) = 0), if_neg (by decide : ¬ (4 : Int32) = 1), if_neg (by decide : ¬ (4 : Int32) = 2), if_neg (by decide : ¬ (4 : Int32) = 3), if_pos rfl]
theorem xnx_5 (M : XM) (a1 a2 a3 a4 a5 : Int32) : xnx M 5 a1 a2 a3 a4 a5 = xnx5 M := by
  rw [xnx, if_neg (by decide : ¬ (5 : Int32) = 0), if_neg (by decide : ¬ (5 : Int32) = 1), if_neg (by decide : ¬ (5 : Int32) = 2), if_neg (by decide : ¬ (5 : Int32) = 3), if_neg (by decide : ¬ (5 : Int32) = 4), if_pos rfl]
theorem xnx_6 (M : XM) (a1 a2 a3 a4 a5 : Int32) : xnx M 6 a1 a2 a3 a4 a5 = xnx6 M a1 a2 := by
  rw [xnx, if_neg (by decide : ¬ (6 : Int32) = 0), if_neg (by decide : ¬ (6 : Int32) = 1), if_neg (by decide : ¬ (6 : Int32) = 2), if_neg (by decide : ¬ (6 : Int32) = 3), if_neg (by decide : ¬ (6 : Int32) = 4), if_neg (by decide : ¬ (6 : Int32) = 5), if_pos rfl]
theorem xnx_7 (M : XM) (a1 a2 a3 a4 a5 : Int32) : xnx M 7 a1 a2 a3 a4 a5 = xnx7 M a1 := by
  rw [xnx, if_neg (by decide : ¬ (7 : Int32) = 0), if_neg (by decide : ¬ (7 : Int32) = 1), if_neg (by decide : ¬ (7 : Int32) = 2), if_neg (by decide : ¬ (7 : Int32) = 3), if_neg (by decide : ¬ (7 : Int32) = 4), if_neg (by decide : ¬ (7 : Int32) = 5), if_neg (by decide : ¬ (7 : Int32) = 6), if_pos rfl]
theorem xnx_8 (M : XM) (a1 a2 a3 a4 a5 : Int32) : xnx M 8 a1 a2 a3 a4 a5 = xnx8 M a1 := by
  rw [xnx, if_neg (by decide : ¬ (8 : Int32) = 0), if_neg (by decide : ¬ (8 : Int32) = 1), if_neg (by decide : ¬ (8 : Int32) = 2), if_neg (by decide : ¬ (8 : Int32) = 3), if_neg (by decide : ¬ (8 : Int32) = 4), if_neg (by decide : ¬ (8 : Int32) = 5), if_neg (by decide : ¬ (8 : Int32) = 6), if_neg (by decide : ¬ (8 : Int32) = 7), if_pos rfl]
theorem xnx_9 (M : XM) (a1 a2 a3 a4 a5 : Int32) : xnx M 9 a1 a2 a3 a4 a5 = xnx9 M a1 a2 := by
  rw [xnx, if_neg (by decide : ¬ (9 : Int32) = 0), if_neg (by decide : ¬ (9 : Int32) = 1), if_neg (by decide : ¬ (9 : Int32) = 2), if_neg (by decide : ¬ (9 : Int32) = 3), if_neg (by decide : ¬ (9 : Int32) = 4), if_neg (by decide : ¬ (9 : Int32) = 5), if_neg (by decide : ¬ (9 : Int32) = 6), if_neg (by decide : ¬ (9 : Int32) = 7), if_neg (by decide : ¬ (9 : Int32) = 8), if_pos rfl]
theorem xnx_10 (M : XM) (a1 a2 a3 a4 a5 : Int32) : xnx M 10 a1 a2 a3 a4 a5 = xnx10 M a1 := by
  rw [xnx, if_neg (by decide : ¬ (10 : Int32) = 0), if_neg (by decide : ¬ (10 : Int32) = 1), if_neg (by decide : ¬ (10 : Int32) = 2), if_neg (by decide : ¬ (10 : Int32) = 3), if_neg (by decide : ¬ (10 : Int32) = 4), if_neg (by decide : ¬ (10 : Int32) = 5), if_neg (by decide : ¬ (10 : Int32) = 6), if_neg (by decide : ¬ (10 : Int32) = 7), if_neg (by decide : ¬ (10 : Int32) = 8), if_neg (by decide : ¬ (10 : Int32) = 9), if_pos rfl]
theorem xnx_11 (M : XM) (a1 a2 a3 a4 a5 : Int32) : xnx M 11 a1 a2 a3 a4 a5 = xnx11 M a1 := by
  rw [xnx, if_neg (by decide : ¬ (11 : Int32) = 0), if_neg (by decide : ¬ (11 : Int32) = 1), if_neg (by decide : ¬ (11 : Int32) = 2), if_neg (by decide : ¬ (11 : Int32) = 3), if_neg (by decide : ¬ (11 : Int32) = 4), if_neg (by decide : ¬ (11 : Int32) = 5), if_neg (by decide : ¬ (11 : Int32) = 6), if_neg (by decide : ¬ (11 : Int32) = 7), if_neg (by decide : ¬ (11 : Int32) = 8), if_neg (by decide : ¬ (11 : Int32) = 9), if_neg (by decide : ¬ (11 : Int32) = 10), if_pos rfl]
theorem xnx_12 (M : XM) (a1 a2 a3 a4 a5 : Int32) : xnx M 12 a1 a2 a3 a4 a5 = xnx12 M a1 := by
  rw [xnx, if_neg (by decide : ¬ (12 : Int32) = 0), if_neg (by decide : ¬ (12 : Int32) = 1), if_neg (by decide : ¬ (12 : Int32) = 2), if_neg (by decide : ¬ (12 : Int32) = 3), if_neg (by decide : ¬ (12 : Int32) = 4), if_neg (by decide : ¬ (12 : Int32) = 5), if_neg (by decide : ¬ (12 : Int32) = 6), if_neg (by decide : ¬ (12 : Int32) = 7), if_neg (by decide : ¬ (12 : Int32) = 8), if_neg (by decide : ¬ (12 : Int32) = 9), if_neg (by decide : ¬ (12 : Int32) = 10), if_neg (by decide : ¬ (12 : Int32) = 11), if_pos rfl]
theorem xnx_13 (M : XM) (a1 a2 a3 a4 a5 : Int32) : xnx M 13 a1 a2 a3 a4 a5 = xnx13 M := by
  rw [xnx, if_neg (by decide : ¬ (13 : Int32) = 0), if_neg (by decide : ¬ (13 : Int32) = 1), if_neg (by decide : ¬ (13 : Int32) = 2), if_neg (by decide : ¬ (13 : Int32) = 3), if_neg (by decide : ¬ (13 : Int32) = 4), if_neg (by decide : ¬ (13 : Int32) = 5), if_neg (by decide : ¬ (13 : Int32) = 6), if_neg (by decide : ¬ (13 : Int32) = 7), if_neg (by decide : ¬ (13 : Int32) = 8), if_neg (by decide : ¬ (13 : Int32) = 9), if_neg (by decide : ¬ (13 : Int32) = 10), if_neg (by decide : ¬ (13 : Int32) = 11), if_neg (by decide : ¬ (13 : Int32) = 12), if_pos rfl]
theorem xnx_14 (M : XM) (a1 a2 a3 a4 a5 : Int32) : xnx M 14 a1 a2 a3 a4 a5 = xnx14 M := by
  rw [xnx, if_neg (by decide : ¬ (14 : Int32) = 0), if_neg (by decide : ¬ (14 : Int32) = 1), if_neg (by decide : ¬ (14 : Int32) = 2), if_neg (by decide : ¬ (14 : Int32) = 3), if_neg (by decide : ¬ (14 : Int32) = 4), if_neg (by decide : ¬ (14 : Int32) = 5), if_neg (by decide : ¬ (14 : Int32) = 6), if_neg (by decide : ¬ (14 : Int32) = 7), if_neg (by decide : ¬ (14 : Int32) = 8), if_neg (by decide : ¬ (14 : Int32) = 9), if_neg (by decide : ¬ (14 : Int32) = 10), if_neg (by decide : ¬ (14 : Int32) = 11), if_neg (by decide : ¬ (14 : Int32) = 12), if_neg (by decide : ¬ (14 : Int32) = 13), if_pos rfl]
theorem xnx_15 (M : XM) (a1 a2 a3 a4 a5 : Int32) : xnx M 15 a1 a2 a3 a4 a5 = xnx15 M := by
  rw [xnx, if_neg (by decide : ¬ (15 : Int32) = 0), if_neg (by decide : ¬ (15 : Int32) = 1), if_neg (by decide : ¬ (15 : Int32) = 2), if_neg (by decide : ¬ (15 : Int32) = 3), if_neg (by decide : ¬ (15 : Int32) = 4), if_neg (by decide : ¬ (15 : Int32) = 5), if_neg (by decide : ¬ (15 : Int32) = 6), if_neg (by decide : ¬ (15 : Int32) = 7), if_neg (by decide : ¬ (15 : Int32) = 8), if_neg (by decide : ¬ (15 : Int32) = 9), if_neg (by decide : ¬ (15 : Int32) = 10), if_neg (by decide : ¬ (15 : Int32) = 11), if_neg (by decide : ¬ (15 : Int32) = 12), if_neg (by decide : ¬ (15 : Int32) = 13), if_neg (by decide : ¬ (15 : Int32) = 14), if_pos rfl]
theorem xnx_16 (M : XM) (a1 a2 a3 a4 a5 : Int32) : xnx M 16 a1 a2 a3 a4 a5 = xnx16 M a1 a2 := by
  rw [xnx, if_neg (by decide : ¬ (16 : Int32) = 0), if_neg (by decide : ¬ (16 : Int32) = 1), if_neg (by decide : ¬ (16 : Int32) = 2), if_neg (by decide : ¬ (16 : Int32) = 3), if_neg (by decide : ¬ (16 : Int32) = 4), if_neg (by decide : ¬ (16 : Int32) = 5), if_neg (by decide : ¬ (16 : Int32) = 6), if_neg (by decide : ¬ (16 : Int32) = 7), if_neg (by decide : ¬ (16 : Int32) = 8), if_neg (by decide : ¬ (16 : Int32) = 9), if_neg (by decide : ¬ (16 : Int32) = 10), if_neg (by decide : ¬ (16 : Int32) = 11), if_neg (by decide : ¬ (16 : Int32) = 12), if_neg (by decide : ¬ (16 : Int32) = 13), if_neg (by decide : ¬ (16 : Int32) = 14), if_neg (by decide : ¬ (16 : Int32) = 15), if_pos rfl]
theorem d_L_law_33 : decode code 33 = .ok (.aload_n 0, 1) := by decide +kernel
theorem d_L_law_34 : decode code 34 = .ok (.iload 4, 2) := by decide +kernel
theorem d_L_law_36 : decode code 36 = .ok (.iaload, 1) := by decide +kernel
theorem d_L_law_37 : decode code 37 = .ok (.bipush 31, 2) := by decide +kernel
theorem d_L_law_39 : decode code 39 = .ok (.iand, 1) := by decide +kernel
theorem d_L_law_sw : decode code 40 = .ok (.tableswitch 630 0 16 #[84, 157, 182, 234, 247, 260, 273, 340, 365, 390, 427, 468, 496, 524, 537, 550, 563], 84) := by decide +kernel
set_option maxHeartbeats 4000000 in
set_option maxRecDepth 100000 in
/-- one call of the script, from the loop's test to its foot -/
theorem law_call (l : Launch) (htl : l.stackTraces = false) (dC : Nat → ClassId) (dI : Nat → Nat → Nat) (Z : Nat → ClassId) (A : Nat → Nat) (M : XM) {p : Program} {e : Env} {s : State} {m : MethodId} {below : List Frame} {meth : Method} {c : Code} {b L i : Nat} {sc : Nat → Int32} {AA : Nat → Prop} {Q : State → Prop} {H : Heap} {locs : List Loc} {ls : Array Slot} {cells slots : Nat}
    (hx : p.tables.exec = Jvm.exec) (hb : c.code = code) (hml : c.maxLocals = 8) (hown : s.vm.findClass "CentrifugeUnitLaw" = some m.cls) (htt : ∀ w ∈ xw, w.before #[Value.ref b] s = true) (hq : xq s) (hs : xs s) (hK : va_K (dC, dI) xcl (xty Z) s) (hA : ∀ q, s.heap.size ≤ q → AA q) (hA0 : ∀ q : Nat, q < s.heap.size → ¬ AA q) (hX : va_X b L sc s s.heap) (hbl : b < s.heap.size) (hL : L < 2 ^ 31) (hi : i + 6 ≤ L)
    (hP : va_P (dC, dI) xcl (xAll Z A M) H) (hD : va_D AA (xAll Z A M)) (hS : va_S AA s.heap H locs) (hl : lv_has ls 8 [(4, .int (nI i)), (3, .ref (A 32)), (2, .ref (A 20)), (1, .ref (A 0)), (0, .ref b)]) (hcl : cells + 1 ≤ room_1.cells) (hsl : slots + 6 ≤ room_1.slots) (hok : xOK M (sc i &&& 31) (sc (i + 1)) (sc (i + 2)) (sc (i + 3)) (sc (i + 4)) (sc (i + 5)))
    (k : ∀ (M2 : XM) (H : Heap) (locs : List Loc) (ls : Array Slot), (M2 = xnx M (sc i &&& 31) (sc (i + 1)) (sc (i + 2)) (sc (i + 3)) (sc (i + 4)) (sc (i + 5)) ∨ M2 = M) → va_P (dC, dI) xcl (xAll Z A M2) H → va_D AA (xAll Z A M2) → va_S AA s.heap H locs → lv_has ls 8 [(4, .int (nI i)), (3, .ref (A 32)), (2, .ref (A 20)), (1, .ref (A 0)), (0, .ref b)] → W p l e room_1 s m #[Value.ref b] below meth c H locs (cells + 1) (slots + 6) Q (F0 m 670 ls [])) : W p l e room_1 s m #[Value.ref b] below meth c H locs cells slots Q (F0 m 33 ls []) := by
  have hbA : ¬ AA b := hA0 b hbl
  refine lv_aload_n hx hb d_L_law_33 rfl (lv_at hl 4 rfl) ?_
  refine lv_iload hx hb d_L_law_34 (lv_at hl 0 rfl) ?_
  refine va_sld hx hb hX hbl hbA hS (vp_in_nI (show i < L by omega) hL) d_L_law_36 ?_
  rw [nI_clamp (show i < 2 ^ 31 by omega)]
  refine lv_bipush (v := 31) hx hb d_L_law_37 (by decide) ?_
  refine lv_iand hx hb d_L_law_39 ?_
  generalize hop : sc i &&& 31 = op at hok k ⊢
  by_cases hlo : op.toInt < 0
  · exact lv_tableOut (tgt := 670) hx hb d_L_law_sw (Or.inl hlo) rfl (W.widen (Nat.le_succ _) (Nat.le_add_right _ 6) (k M H locs ls (Or.inr rfl) hP hD hS hl))
  by_cases hhi : 16 < op.toInt
  · exact lv_tableOut (tgt := 670) hx hb d_L_law_sw (Or.inr hhi) rfl (W.widen (Nat.le_succ _) (Nat.le_add_right _ 6) (k M H locs ls (Or.inr rfl) hP hD hS hl))
  have hop17 : op = 0 ∨ op = 1 ∨ op = 2 ∨ op = 3 ∨ op = 4 ∨ op = 5 ∨ op = 6 ∨ op = 7 ∨ op = 8 ∨ op = 9 ∨ op = 10 ∨ op = 11 ∨ op = 12 ∨ op = 13 ∨ op = 14 ∨ op = 15 ∨ op = 16 := by
    have q : op.toInt = 0 ∨ op.toInt = 1 ∨ op.toInt = 2 ∨ op.toInt = 3 ∨ op.toInt = 4 ∨ op.toInt = 5 ∨ op.toInt = 6 ∨ op.toInt = 7 ∨ op.toInt = 8 ∨ op.toInt = 9 ∨ op.toInt = 10 ∨ op.toInt = 11 ∨ op.toInt = 12 ∨ op.toInt = 13 ∨ op.toInt = 14 ∨ op.toInt = 15 ∨ op.toInt = 16 := by omega
    rcases q with q | q | q | q | q | q | q | q | q | q | q | q | q | q | q | q | q
    · exact Or.inl (Int32.toInt_inj.mp (q.trans (by decide)))
    · exact Or.inr (Or.inl (Int32.toInt_inj.mp (q.trans (by decide))))
    · exact Or.inr (Or.inr (Or.inl (Int32.toInt_inj.mp (q.trans (by decide)))))
    · exact Or.inr (Or.inr (Or.inr (Or.inl (Int32.toInt_inj.mp (q.trans (by decide))))))
    · exact Or.inr (Or.inr (Or.inr (Or.inr (Or.inl (Int32.toInt_inj.mp (q.trans (by decide)))))))
    · exact Or.inr (Or.inr (Or.inr (Or.inr (Or.inr (Or.inl (Int32.toInt_inj.mp (q.trans (by decide))))))))
    · exact Or.inr (Or.inr (Or.inr (Or.inr (Or.inr (Or.inr (Or.inl (Int32.toInt_inj.mp (q.trans (by decide)))))))))
    · exact Or.inr (Or.inr (Or.inr (Or.inr (Or.inr (Or.inr (Or.inr (Or.inl (Int32.toInt_inj.mp (q.trans (by decide))))))))))
    · exact Or.inr (Or.inr (Or.inr (Or.inr (Or.inr (Or.inr (Or.inr (Or.inr (Or.inl (Int32.toInt_inj.mp (q.trans (by decide)))))))))))
    · exact Or.inr (Or.inr (Or.inr (Or.inr (Or.inr (Or.inr (Or.inr (Or.inr (Or.inr (Or.inl (Int32.toInt_inj.mp (q.trans (by decide))))))))))))
    · exact Or.inr (Or.inr (Or.inr (Or.inr (Or.inr (Or.inr (Or.inr (Or.inr (Or.inr (Or.inr (Or.inl (Int32.toInt_inj.mp (q.trans (by decide)))))))))))))
    · exact Or.inr (Or.inr (Or.inr (Or.inr (Or.inr (Or.inr (Or.inr (Or.inr (Or.inr (Or.inr (Or.inr (Or.inl (Int32.toInt_inj.mp (q.trans (by decide))))))))))))))
    · exact Or.inr (Or.inr (Or.inr (Or.inr (Or.inr (Or.inr (Or.inr (Or.inr (Or.inr (Or.inr (Or.inr (Or.inr (Or.inl (Int32.toInt_inj.mp (q.trans (by decide)))))))))))))))
    · exact Or.inr (Or.inr (Or.inr (Or.inr (Or.inr (Or.inr (Or.inr (Or.inr (Or.inr (Or.inr (Or.inr (Or.inr (Or.inr (Or.inl (Int32.toInt_inj.mp (q.trans (by decide))))))))))))))))
    · exact Or.inr (Or.inr (Or.inr (Or.inr (Or.inr (Or.inr (Or.inr (Or.inr (Or.inr (Or.inr (Or.inr (Or.inr (Or.inr (Or.inr (Or.inl (Int32.toInt_inj.mp (q.trans (by decide)))))))))))))))))
    · exact Or.inr (Or.inr (Or.inr (Or.inr (Or.inr (Or.inr (Or.inr (Or.inr (Or.inr (Or.inr (Or.inr (Or.inr (Or.inr (Or.inr (Or.inr (Or.inl (Int32.toInt_inj.mp (q.trans (by decide))))))))))))))))))
    · exact Or.inr (Or.inr (Or.inr (Or.inr (Or.inr (Or.inr (Or.inr (Or.inr (Or.inr (Or.inr (Or.inr (Or.inr (Or.inr (Or.inr (Or.inr (Or.inr ((Int32.toInt_inj.mp (q.trans (by decide)))))))))))))))))))
  rcases hop17 with rfl | rfl | rfl | rfl | rfl | rfl | rfl | rfl | rfl | rfl | rfl | rfl | rfl | rfl | rfl | rfl | rfl
  · refine lv_tableIn (off := 84) (tgt := 124) hx hb d_L_law_sw hlo hhi (by decide) rfl ?_
    refine law_c0 l htl dC dI Z A M hx hb hml hown htt hq hs hK hA hA0 hX hbl hL hi hP hD hS hl hcl hsl (fun N u H locs ls e1 e2 hP hD hS hl => k (xmix N (ap_R_rotor M u)) H locs ls (Or.inl ?_) hP hD hS hl)
    rw [xnx_0, xnx0, e1, e2]
  · refine lv_tableIn (off := 157) (tgt := 197) hx hb d_L_law_sw hlo hhi (by decide) rfl ?_
    refine law_c1 l htl dC dI Z A M hx hb hml hown htt hq hs hK hA hA0 hX hbl hL hi hP hD hS hl hcl hsl (fun N u H locs ls e1 e2 hP hD hS hl => k (xmix N (ap_R_put M u)) H locs ls (Or.inl ?_) hP hD hS hl)
    rw [xnx_1, xnx1, e1, e2]
  · refine lv_tableIn (off := 182) (tgt := 222) hx hb d_L_law_sw hlo hhi (by decide) rfl ?_
    have q : xNK2 M (sc (i + 1)) (sc (i + 2)) (sc (i + 3)) := hok.2.2.1 rfl
    rw [xNK2] at q
    obtain ⟨q0, q1, q2⟩ := q
    refine law_c2 l htl dC dI Z A M q0 q1 q2 hx hb hml hown htt hq hs hK hA hA0 hX hbl hL hi hP hD hS hl hcl hsl (fun N u H locs ls e1 e2 hP hD hS hl => k (xmix N (ap_R_segment M u)) H locs ls (Or.inl ?_) hP hD hS hl)
    rw [xnx_2, xnx2, e1, e2]
  · refine lv_tableIn (off := 234) (tgt := 274) hx hb d_L_law_sw hlo hhi (by decide) rfl ?_
    refine law_c3 l htl dC dI Z A M hx hb hml hown htt hq hs hK hA hA0 hX hbl hL hi hP hD hS hl hcl hsl (fun N u H locs ls e1 e2 hP hD hS hl => k (xmix N (ap_R_start M u)) H locs ls (Or.inl ?_) hP hD hS hl)
    rw [xnx_3, xnx3, e1, e2]
  · refine lv_tableIn (off := 247) (tgt := 287) hx hb d_L_law_sw hlo hhi (by decide) rfl ?_
    refine law_c4 l htl dC dI Z A M hx hb hml hown htt hq hs hK hA hA0 hX hbl hL hi hP hD hS hl hcl hsl (fun N u H locs ls e1 e2 hP hD hS hl => k (xmix N (ap_R_stop M u)) H locs ls (Or.inl ?_) hP hD hS hl)
    rw [xnx_4, xnx4, e1, e2]
  · refine lv_tableIn (off := 260) (tgt := 300) hx hb d_L_law_sw hlo hhi (by decide) rfl ?_
    refine law_c5 l htl dC dI Z A M hx hb hml hown htt hq hs hK hA hA0 hX hbl hL hi hP hD hS hl hcl hsl (fun N u H locs ls e1 e2 hP hD hS hl => k (xmix N (ap_R_open M u)) H locs ls (Or.inl ?_) hP hD hS hl)
    rw [xnx_5, xnx5, e1, e2]
  · refine lv_tableIn (off := 273) (tgt := 313) hx hb d_L_law_sw hlo hhi (by decide) rfl ?_
    refine law_c6 l dC dI Z A M hx hb hml hown htt hq hK hA hA0 hX hbl hL hi hP hD hS hl hcl hsl (fun y u H locs ls e1 e2 hP hD hS hl => k (xmix (ap_U_bolt M y) (ap_R_bolt M u)) H locs ls (Or.inl ?_) hP hD hS hl)
    rw [xnx_6, xnx6, e1, e2]
  · refine lv_tableIn (off := 340) (tgt := 380) hx hb d_L_law_sw hlo hhi (by decide) rfl ?_
    refine law_c7 l htl dC dI Z A M hx hb hml hown htt hq hs hK hA hA0 hX hbl hL hi hP hD hS hl hcl hsl (fun N u H locs ls e1 e2 hP hD hS hl => k (xmix N (ap_R_shake M u)) H locs ls (Or.inl ?_) hP hD hS hl)
    rw [xnx_7, xnx7, e1, e2]
  · refine lv_tableIn (off := 365) (tgt := 405) hx hb d_L_law_sw hlo hhi (by decide) rfl ?_
    refine law_c8 l htl dC dI Z A M hx hb hml hown htt hq hs hK hA hA0 hX hbl hL hi hP hD hS hl hcl hsl (fun N u H locs ls e1 e2 hP hD hS hl => k (xmix N (ap_R_chamber M u)) H locs ls (Or.inl ?_) hP hD hS hl)
    rw [xnx_8, xnx8, e1, e2]
  · refine lv_tableIn (off := 390) (tgt := 430) hx hb d_L_law_sw hlo hhi (by decide) rfl ?_
    refine law_c9 l htl dC dI Z A M hx hb hml hown htt hq hs hK hA hA0 hX hbl hL hi hP hD hS hl hcl hsl (fun N u H locs ls e1 e2 hP hD hS hl => k (xmix N (ap_R_fail M u)) H locs ls (Or.inl ?_) hP hD hS hl)
    rw [xnx_9, xnx9, e1, e2]
  · refine lv_tableIn (off := 427) (tgt := 467) hx hb d_L_law_sw hlo hhi (by decide) rfl ?_
    refine law_c10 l htl dC dI Z A M hx hb hml hown htt hq hs hK hA hA0 hX hbl hL hi hP hD hS hl hcl hsl (fun N u H locs ls e1 e2 hP hD hS hl => k (xmix N (ap_R_power M u)) H locs ls (Or.inl ?_) hP hD hS hl)
    rw [xnx_10, xnx10, e1, e2]
  · refine lv_tableIn (off := 468) (tgt := 508) hx hb d_L_law_sw hlo hhi (by decide) rfl ?_
    have q : xNK11 M (sc (i + 1)) := hok.2.2.2.2.2.2.2.2.2.2.2.1 rfl
    rw [xNK11] at q
    obtain ⟨q0, q1⟩ := q
    refine law_c11 l htl dC dI Z A M q0 q1 hx hb hml hown htt hq hs hK hA hA0 hX hbl hL hi hP hD hS hl hcl hsl (fun N u H locs ls e1 e2 hP hD hS hl => k (xmix N (ap_R_tickA M u)) H locs ls (Or.inl ?_) hP hD hS hl)
    rw [xnx_11, xnx11, e1, e2]
  · refine lv_tableIn (off := 496) (tgt := 536) hx hb d_L_law_sw hlo hhi (by decide) rfl ?_
    refine law_c12 l htl dC dI Z A M hx hb hml hown htt hq hs hK hA hA0 hX hbl hL hi hP hD hS hl hcl hsl (fun N u H locs ls e1 e2 hP hD hS hl => k (xmix N (ap_R_look M u)) H locs ls (Or.inl ?_) hP hD hS hl)
    rw [xnx_12, xnx12, e1, e2]
  · refine lv_tableIn (off := 524) (tgt := 564) hx hb d_L_law_sw hlo hhi (by decide) rfl ?_
    refine law_c13 l dC dI Z A M hx hb hml hown htt hq hK hA hA0 hX hbl hL hi hP hD hS hl hcl hsl (fun u H locs ls e2 hP hD hS hl => k (xmix M (ap_R_dose M u)) H locs ls (Or.inl ?_) hP hD hS hl)
    rw [xnx_13, xnx13, e2]
  · refine lv_tableIn (off := 537) (tgt := 577) hx hb d_L_law_sw hlo hhi (by decide) rfl ?_
    have q : xNK14 M := hok.2.2.2.2.2.2.2.2.2.2.2.2.2.2.1 rfl
    rw [xNK14] at q
    have q0 := q
    refine law_c14 l dC dI Z A M q0 hx hb hml hown htt hq hK hA hA0 hX hbl hL hi hP hD hS hl hcl hsl (fun u H locs ls e2 hP hD hS hl => k (xmix M (ap_R_force M u)) H locs ls (Or.inl ?_) hP hD hS hl)
    rw [xnx_14, xnx14, e2]
  · refine lv_tableIn (off := 550) (tgt := 590) hx hb d_L_law_sw hlo hhi (by decide) rfl ?_
    refine law_c15 l dC dI Z A M hx hb hml hown htt hq hK hA hA0 hX hbl hL hi hP hD hS hl hcl hsl (fun u H locs ls e2 hP hD hS hl => k (xmix M (ap_R_plant M u)) H locs ls (Or.inl ?_) hP hD hS hl)
    rw [xnx_15, xnx15, e2]
  · refine lv_tableIn (off := 563) (tgt := 603) hx hb d_L_law_sw hlo hhi (by decide) rfl ?_
    have q : xOK16 M (sc (i + 1)) (sc (i + 2)) := hok.2.2.2.2.2.2.2.2.2.2.2.2.2.2.2.2 rfl
    rw [xOK16] at q
    obtain ⟨q0, q1⟩ := q
    refine law_c16 l htl dC dI Z A M hx hb hml hown htt hq hs hK hA hA0 hX hbl hL hi hP hD hS hl hcl hsl q0 q1 (fun N u H locs ls e1 e2 hP hD hS hl => k (xmix N (ap_R_record M u)) H locs ls (Or.inl ?_) hP hD hS hl)
    rw [xnx_16, xnx16, e1, e2]
