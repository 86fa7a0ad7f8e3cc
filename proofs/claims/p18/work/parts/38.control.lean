/-! what one act of the control leaves on both sides -/
def vCT (T : Nat) (R : XM) (o : Int32 × Int32 × Int32 × Int32 × Int32 × Int32 × Int32 × Int32 × Int32 × Int32 × Int64 × Int32 × Int32 × Int32 × Int32 × Int32 × Int64 × Int32 × Int32 × Int32 × (Nat → Int32) × (Nat → Int64) × (Nat → Int32) × Int32 × Int32) (c : Int64 × Int64 × Int64 × Int32 × Int32 × Int32 × Int64 × Int64 × Int32 × Int32 × Int32 × Int32 × Int32 × Int32 × Int32 × Int32 × Int64 × Int32 × Int64 × Int32 × (Nat → Int64) × (Nat → Int64) × (Nat → Int64) × Int32 × Int32 × Int32) : Prop := o.2.2.2.2.2.2.2.2.2.2.2.2.2.2.1 = c.2.2.2.2.2.2.2.2.2.2.2.2.1 ∧ (c.2.2.2.2.2.2.2.2.2.2.2.2.1 = 0 ∨ c.2.2.2.2.2.2.2.2.2.2.2.2.1 = 1 ∨ c.2.2.2.2.2.2.2.2.2.2.2.2.1 = 2 ∨ c.2.2.2.2.2.2.2.2.2.2.2.2.1 = 3) ∧ o.2.2.2.2.2.2.2.2.2.2.2.2.2.2.2.1 = c.2.2.2.2.2.2.2.2.2.2.2.2.2.1 ∧ (o.2.2.2.2.2.2.2.1 = c.2.2.2.1 ∧ o.2.2.2.2.2.2.2.2.1 = c.2.2.2.2.1 ∧ o.2.2.2.2.2.2.2.2.2.1 = c.2.2.2.2.2.1) ∧ (o.2.2.2.2.2.2.2.2.2.2.2.2.1 = c.2.2.2.2.2.2.2.2.2.2.2.1 ∧ vRd R c.2.2.2.2.2.2.2.2.2.2.2.1) ∧ (c.2.2.1 = o.2.2.2.2.2.1.toInt64 ∧ (0 ≤ o.2.2.2.2.2.1.toInt ∧ o.2.2.2.2.2.1.toInt ≤ 100000)) ∧ c.2.2.2.2.2.2.1 = o.2.2.2.2.2.2.2.2.2.2.2.2.2.1.toInt64 ∧ o.2.2.2.2.2.2.2.2.2.2.2.2.2.2.2.2.2.2.1 = c.2.2.2.2.2.2.2.2.2.2.2.2.2.2.2.2.2.1 ∧ (c.2.2.2.2.2.2.2.2.2.2.2.2.2.2.2.2.2.2.1 = o.2.2.2.2.2.2.2.2.2.2.2.2.2.2.2.2.2.2.2.1.toInt64 ∧ (0 ≤ o.2.2.2.2.2.2.2.2.2.2.2.2.2.2.2.2.2.2.2.1.toInt ∧ o.2.2.2.2.2.2.2.2.2.2.2.2.2.2.2.2.2.2.2.1.toInt ≤ 100000)) ∧ o.2.2.2.2.2.2.2.2.2.2.2.2.2.2.2.2.1 = c.2.2.2.2.2.2.2.2.2.2.2.2.2.2.2.2.1 ∧ (o.2.2.2.2.2.2.2.2.2.2.2.2.2.2.2.2.2.2.2.2.2.2.2.1 = c.2.2.2.2.2.2.2.2.2.2.2.2.2.2.2.2.2.2.2.2.2.2.2.1 ∧ (0 ≤ c.2.2.2.2.2.2.2.2.2.2.2.2.2.2.2.2.2.2.2.2.2.2.2.1.toInt ∧ c.2.2.2.2.2.2.2.2.2.2.2.2.2.2.2.2.2.2.2.2.2.2.2.1.toInt ≤ T + 1) ∧ ∀ k : Nat, k < 16 → (o.2.2.2.2.2.2.2.2.2.2.2.2.2.2.2.2.2.2.2.2.1 k).toInt64 = c.2.2.2.2.2.2.2.2.2.2.2.2.2.2.2.2.2.2.2.2.1 k ∧ o.2.2.2.2.2.2.2.2.2.2.2.2.2.2.2.2.2.2.2.2.2.1 k = c.2.2.2.2.2.2.2.2.2.2.2.2.2.2.2.2.2.2.2.2.2.1 k ∧ (o.2.2.2.2.2.2.2.2.2.2.2.2.2.2.2.2.2.2.2.2.2.2.1 k).toInt64 = c.2.2.2.2.2.2.2.2.2.2.2.2.2.2.2.2.2.2.2.2.2.2.1 k) ∧ (c.2.2.2.2.2.2.2.2.2.2.2.2.1 = 1 → o.2.2.2.2.2.2.2.2.2.2.2.2.2.2.2.2.2.1 = c.2.2.2.2.2.2.2.2.2.2.2.2.2.2.2.2.2.2.2.1 ∧ vRun R c.2.2.2.2.2.2.2.2.2.2.2.2.2.2.2.2.2.2.2.1 c.2.2.2.2.2.2.2.2.2.2.2.2.2.2.2.2.2.1) ∧ ((c.2.2.2.2.2.2.2.2.2.2.2.2.1 = 1 ∨ c.2.2.2.2.2.2.2.2.2.2.2.2.1 = 2) → o.2.2.2.2.2.2.2.2.2.2.1 = c.2.2.2.2.2.2.2.1 ∧ o.2.2.2.2.2.2.2.2.2.2.2.1 = 0 ∧ vAny R c.2.2.2.2.2.2.2.2.2.1 c.2.2.2.2.2.2.2.2.2.2.1 c.2.2.2.2.2.2.2.2.2.2.2.1) ∧ (R.1 109 = 0 → c.2.2.2.2.2.2.2.2.2.2.2.2.2.2.1 = 0 ∧ c.2.2.2.2.2.2.2.2.2.2.2.2.2.2.2.1 = 0) ∧ (o.1 = c.2.2.2.2.2.2.2.2.2.2.2.2.2.2.1 ∧ (0 ≤ o.1.toInt ∧ o.1.toInt ≤ 100)) ∧ (o.2.1 = c.2.2.2.2.2.2.2.2.2.2.2.2.2.2.2.1 ∧ (0 ≤ o.2.1.toInt ∧ o.2.1.toInt ≤ 9))
def vFP (R : XM) (q : Int32 × Int32) (d : Int64) (a : Int32 × Int32 × Int32 × Int32 × Int32 × Int32 × Int32) (j : Int32 × Int32 × Int32 × Int32 × Int64 × Int32 × Int64 × Int32) : Prop := a.2.2.1 = j.1 ∧ a.2.2.2.1 = j.2.1 ∧ a.2.2.2.2.2.1 = j.2.2.1 ∧ a.2.2.2.2.2.2 = j.2.2.2.1 ∧ d = j.2.2.2.2.1 ∧ a.2.1 = j.2.2.2.2.2.1 ∧ j.2.2.2.2.2.2.1 = a.2.2.2.2.1.toInt64 ∧ (0 ≤ a.2.2.2.2.1.toInt ∧ a.2.2.2.2.1.toInt ≤ 100000) ∧ (0 ≤ a.2.2.2.2.2.1.toInt ∧ a.2.2.2.2.2.1.toInt ≤ 100) ∧ (0 ≤ a.2.2.2.2.2.2.toInt ∧ a.2.2.2.2.2.2.toInt ≤ 9) ∧ (j.1 = 0 ∨ j.1 = 1 ∨ j.1 = 2 ∨ j.1 = 3) ∧ (j.1 = 1 → a.1 = j.2.2.2.2.2.2.2 ∧ vRun R j.2.2.2.2.2.2.2 j.2.2.2.2.2.1) ∧ ((j.1 = 1 ∨ j.1 = 2) → (q.1 = 1 ∨ q.1 = 2))
set_option maxHeartbeats 4000000 in
set_option maxRecDepth 100000 in
theorem fp_all {T : Nat} {C R N : XM} (hA : vA C R) (hB : vB T C R) (u1 : Int64 × Int64 × Int64 × Int32 × Int32 × Int32 × Int64 × Int64 × Int32 × Int32 × Int32 × Int32) (q : Int32 × Int32) (d : Int64) (hq : q.1 = 0 ∨ q.1 = 1 ∨ q.1 = 2 ∨ q.1 = 3) (hq1 : q.1 = 1 → R.1 110 = 1) (e1 : N.1 1 = C.1 1) (e6 : u1.2.2.1 = (N.1 6).toInt64) (r6 : 0 ≤ (N.1 6).toInt ∧ (N.1 6).toInt ≤ 100000) (e13 : N.1 13 = C.1 13) (e14 : N.1 14 = q.1) (e15 : N.1 15 = q.2) (e16 : N.1 16 = 0) (e17 : N.1 17 = 0) (e26 : N.1 26 = C.1 26) (e27 : N.1 27 = C.1 27) (e28 : N.1 28 = C.1 28) (ed : N.2.1 1 = d) (e22 : N.2.2 = C.2.2) (hd : d = if q.1 = 1 then R.2.1 105 + F_R_control_j8 R u1 q (F_R_control_j6 R u1 q) else R.2.1 105) : vFP R q d (F_Control_followProgram N) (F_R_control_j11 R u1 q) := by
  obtain ⟨a0, a0r, a1, a1r, a2, a2r, a3, a3r, a8, a9, a12, a13, a19, aT, aP⟩ := hA
  obtain ⟨b1, b2, b3, ⟨b4a, b4b, b4c⟩, ⟨b5, b5d⟩, ⟨b6, b6r⟩, b7, b8, ⟨b9, b9r⟩, b10, ⟨b11, b11r⟩, ⟨b12, b12r, b12k⟩, b13, b14, b15⟩ := hB
  unfold F_Control_followProgram F_R_control_j11
  by_cases g : q.1 = 1
  · rw [if_pos (e14.trans g), if_pos g]
    rw [if_pos g] at hd
    obtain ⟨c26, cr⟩ := b13 (hq1 g)
    have hat : N.1 26 = R.1 112 := by rw [e26, c26]
    have hk : ((R.1 112).toNatClampNeg : Int) < (R.1 102).toInt := by
      have e : (R.1 112).toNatClampNeg = (R.1 112).toInt.toNat := rfl
      have := cr.1
      omega
    obtain ⟨s7, s8, s9, sv⟩ := aP _ hk
    have hhas : F_Program_has N (N.1 26) = 1 := by
      unfold F_Program_has
      rw [hat, e1, a1, if_neg (by rw [Int32.lt_iff_toInt_lt, i0]; have := cr.1; omega), if_neg (by rw [Int32.le_iff_toInt_le]; have := cr.1; omega)]
    unfold F_Control_followProgram_k1
    rw [hhas, if_neg (show ¬ (1 : Int32) = 0 by decide), hat]
    unfold F_R_control_k7 F_R_control_k9
    rw [← hd]
    have hw := wk_all (N := N) (K := ((va_up (va_up (va_up (va_up (va_up (va_up (va_up (va_up (va_up (va_up (va_up R.1 118 (u1.2.2.2.1)) 119 (u1.2.2.2.2.1)) 120 (u1.2.2.2.2.2.1)) 117 (u1.2.2.2.2.2.2.2.2.1)) 114 (u1.2.2.2.2.2.2.2.2.2.1)) 115 (u1.2.2.2.2.2.2.2.2.2.2.1)) 116 (u1.2.2.2.2.2.2.2.2.2.2.2)) 110 (q.1)) 111 (q.2)) 103 0) 104 0), (va_up (va_up (va_up (va_up (va_up (va_up R.2.1 101 (u1.1)) 102 (u1.2.1)) 103 (u1.2.2.1)) 107 (u1.2.2.2.2.2.2.1)) 106 (u1.2.2.2.2.2.2.2.1)) 105 d), R.2.2)) (w := R.1 112) rfl (by rw [e22]; exact s7) (by rw [e22]; exact s8) (by rw [e22]; exact s9) sv (by rw [e27]; exact b8) e6 r6 (by rw [e28]; exact b9) (by rw [e28]; exact b9r) (by rw [e13]; exact a13) ed e16 e17 cr.2
    generalize F_R_work _ = W at hw
    generalize F_Control_segmentIsThrough N (R.1 112) = P at hw
    obtain ⟨W1, W2, W3, W4, W5⟩ := W
    obtain ⟨P1, P2, P3, P4, P5⟩ := P
    obtain ⟨w1, w2, w3, w4, w5, w6, w7, w8, w9⟩ := hw
    have w1' : W1 = P1 := w1
    have w2' : W2 = P2 := w2
    have w3' : W3 = P3.toInt64 := w3
    have w4' : W4 = P4 := w4
    have w5' : W5 = P5 := w5
    subst w1' w2' w3' w4' w5'
    unfold F_Control_followProgram_k5 F_R_control_k10
    by_cases z : W1 = 0
    · rw [if_pos z, if_pos z]
      exact ⟨e14, e15, rfl, rfl, hd, rfl, rfl, w6, w7, w8, hq, fun _ => ⟨hat, cr.1, w9 z⟩, fun h => h⟩
    · rw [if_neg z, if_neg z]
      unfold F_Control_followProgram_k6 F_Control_followProgram_k7 F_Run_nextSegment
      have n1 : (R.1 112 + 1).toInt = (R.1 112).toInt + 1 := by
        have := cr.1
        rw [n32_add (by rw [show (1 : Int32).toInt = 1 by decide]; omega) (by rw [show (1 : Int32).toInt = 1 by decide]; omega), show (1 : Int32).toInt = 1 by decide]
      have hh : F_Program_has N (R.1 112 + 1) = if R.1 112 + 1 = R.1 102 then 0 else 1 := by
        unfold F_Program_has
        rw [e1, a1, if_neg (by rw [Int32.lt_iff_toInt_lt, i0, n1]; have := cr.1; omega)]
        by_cases y : R.1 112 + 1 = R.1 102
        · rw [if_pos y, if_pos (by rw [y, Int32.le_iff_toInt_le]; omega)]
        · rw [if_neg y, if_neg (fun h => ?_)]
          rw [Int32.le_iff_toInt_le, n1] at h
          have := cr.1
          exact y (n_eq32 (by rw [n1]; omega))
      have hat2 : (va_up (va_up N.1 27 W2) 28 P3, N.2).1 26 + 1 = R.1 112 + 1 := by
        show N.1 26 + 1 = _
        rw [hat]
      have hh2 : F_Program_has N ((va_up (va_up N.1 27 W2) 28 P3, N.2).1 26 + 1) = if R.1 112 + 1 = R.1 102 then 0 else 1 := by rw [hat2]; exact hh
      by_cases y : R.1 112 + 1 = R.1 102
      · rw [if_pos y] at hh2 ⊢
        rw [if_pos (show F_Program_has N (((va_up (va_up N.1 27 (W1, W2, P3, W4, W5).2.1) 28 (W1, W2, P3, W4, W5).2.2.1, N.2).1 26 + 1, (0 : Int32)).1) = 0 from hh2)]
        unfold F_Control_followProgram_k8 F_Control_beginStopping
        exact ⟨rfl, rfl, rfl, rfl, hd, rfl, rfl, w6, w7, w8, Or.inr (Or.inr (Or.inl rfl)), fun h => absurd (show (2 : Int32) = 1 from h) (by decide), fun _ => Or.inl g⟩
      · rw [if_neg y] at hh2 ⊢
        rw [if_neg (show ¬ F_Program_has N (((va_up (va_up N.1 27 (W1, W2, P3, W4, W5).2.1) 28 (W1, W2, P3, W4, W5).2.2.1, N.2).1 26 + 1, (0 : Int32)).1) = 0 from fun h => absurd (hh2.symm.trans h) (by decide))]
        have hlt : (R.1 112 + 1).toInt < (R.1 102).toInt := by
          have h1 := cr.1
          have h2 : ¬ (R.1 112).toInt + 1 = (R.1 102).toInt := fun h => y (n_eq32 (by rw [n1, h]))
          omega
        have hk2 : ((R.1 112 + 1).toNatClampNeg : Int) < (R.1 102).toInt := by
          have e : (R.1 112 + 1).toNatClampNeg = (R.1 112 + 1).toInt.toNat := rfl
          have := cr.1
          omega
        obtain ⟨-, -, -, sv2⟩ := aP _ hk2
        have hrun : vRun R (R.1 112 + 1) 0 := by
          refine ⟨⟨by rw [n1]; have := cr.1; omega, hlt⟩, fun h1 => ⟨by decide, ?_⟩⟩
          rcases sv2 with ⟨k0, -⟩ | ⟨k0, ka⟩ | ⟨k0, -⟩ | ⟨k0, -⟩ | ⟨k0, -⟩
          · rw [k0] at h1; exact absurd h1 (by decide)
          · rw [i0]; omega
          · rw [k0] at h1; exact absurd h1 (by decide)
          · rw [k0] at h1; exact absurd h1 (by decide)
          · rw [k0] at h1; exact absurd h1 (by decide)
        exact ⟨e14, e15, rfl, rfl, hd, rfl, rfl, w6, w7, w8, hq, fun _ => ⟨hat2, hrun⟩, fun h => h⟩
  · rw [if_neg (fun h => g (e14.symm.trans h)), if_neg g]
    rw [if_neg g] at hd
    have x1 : 0 ≤ (N.1 16).toInt ∧ (N.1 16).toInt ≤ 100 := by rw [e16]; decide
    have x2 : 0 ≤ (N.1 17).toInt ∧ (N.1 17).toInt ≤ 9 := by rw [e17]; decide
    have x3 : R.2.1 104 = (N.1 28).toInt64 := by rw [e28]; exact b9
    have x4 : 0 ≤ (N.1 28).toInt ∧ (N.1 28).toInt ≤ 100000 := by rw [e28]; exact b9r
    exact ⟨e14, e15, e16, e17, hd, e27.trans b8, x3, x4, x1, x2, hq, fun h => absurd h g, fun h => h⟩
theorem rc_upd (a : Nat → Int32) (b : Nat → Int64) (i k : Nat) (x : Int32) (y : Int64) (h : (a k).toInt64 = b k) (hxy : x.toInt64 = y) : (upd a i x k).toInt64 = vp_updL b i y k := by
  unfold upd vp_updL
  by_cases q : k = i
  · rw [if_pos q, if_pos q, hxy]
  · rw [if_neg q, if_neg q, h]
theorem rc_updL (a b : Nat → Int64) (i k : Nat) (x y : Int64) (h : a k = b k) (hxy : x = y) : vp_updL a i x k = vp_updL b i y k := by
  unfold vp_updL
  by_cases q : k = i
  · rw [if_pos q, if_pos q, hxy]
  · rw [if_neg q, if_neg q, h]
def vRS (T : Nat) (s : Int32) (e : Int32 × Int32 × (Nat → Int32) × (Nat → Int64) × (Nat → Int32) × Int32 × Int32) (j : Int32 × Int32 × Int32 × (Nat → Int64) × (Nat → Int64) × (Nat → Int64) × Int32) : Prop := e.2.2.2.2.2.2 = j.1 ∧ (j.1 = 0 ∨ j.1 = s) ∧ e.1 = j.2.1 ∧ e.2.1 = j.2.2.1 ∧ (0 ≤ e.1.toInt ∧ e.1.toInt ≤ 100) ∧ (0 ≤ e.2.1.toInt ∧ e.2.1.toInt ≤ 9) ∧ (e.2.2.2.2.2.1 = j.2.2.2.2.2.2 ∧ (0 ≤ j.2.2.2.2.2.2.toInt ∧ j.2.2.2.2.2.2.toInt ≤ T + 1)) ∧ (∀ k : Nat, k < 16 → (e.2.2.1 k).toInt64 = j.2.2.2.1 k ∧ e.2.2.2.1 k = j.2.2.2.2.1 k ∧ (e.2.2.2.2.1 k).toInt64 = j.2.2.2.2.2.1 k)
set_option maxHeartbeats 4000000 in
set_option maxRecDepth 100000 in
theorem rs_all {T : Nat} (hT : T < 2000000000) {C R N : XM} (u1 : Int64 × Int64 × Int64 × Int32 × Int32 × Int32 × Int64 × Int64 × Int32 × Int32 × Int32 × Int32) (q : Int32 × Int32) (j : Int32 × Int32 × Int32 × Int32 × Int64 × Int32 × Int64 × Int32) (hp : ¬ R.1 109 = 0) (b12 : C.1 11 = R.1 125) (b12r : 0 ≤ (R.1 125).toInt ∧ (R.1 125).toInt ≤ T) (b12k : vRec C R) (e11 : N.1 11 = C.1 11) (e14 : N.1 14 = j.1) (e15 : N.1 15 = j.2.1) (e16 : N.1 16 = j.2.2.1) (e17 : N.1 17 = j.2.2.2.1) (e20 : N.1 20 = u1.2.2.2.1) (e25 : u1.2.2.2.2.2.2.1 = (N.1 25).toInt64) (ed : N.2.1 1 = j.2.2.2.2.1) (e22 : N.2.2 = C.2.2) (r16 : 0 ≤ (N.1 16).toInt ∧ (N.1 16).toInt ≤ 100) (r17 : 0 ≤ (N.1 17).toInt ∧ (N.1 17).toInt ≤ 9) : vRS T j.1 (F_Control_comeToRest N) (F_R_control_j17 R u1 q j) := by
  have hz : F_R_atRest ((va_up (va_up (va_up (va_up (va_up (va_up (va_up (va_up (va_up (va_up (va_up (va_up (va_up R.1 118 (u1.2.2.2.1)) 119 (u1.2.2.2.2.1)) 120 (u1.2.2.2.2.2.1)) 117 (u1.2.2.2.2.2.2.2.2.1)) 114 (u1.2.2.2.2.2.2.2.2.2.1)) 115 (u1.2.2.2.2.2.2.2.2.2.2.1)) 116 (u1.2.2.2.2.2.2.2.2.2.2.2)) 110 (j.1)) 111 (j.2.1)) 113 (j.2.2.2.2.2.1)) 112 (j.2.2.2.2.2.2.2)) 103 0) 104 9), (va_up (va_up (va_up (va_up (va_up (va_up (va_up R.2.1 101 (u1.1)) 102 (u1.2.1)) 103 (u1.2.2.1)) 107 (u1.2.2.2.2.2.2.1)) 106 (u1.2.2.2.2.2.2.2.1)) 105 (j.2.2.2.2.1)) 104 (j.2.2.2.2.2.2.1)), R.2.2) = F_Watch_atRest N := by
    unfold F_R_atRest F_Watch_atRest
    show (if R.1 109 = 0 then 0 else if u1.2.2.2.1 < 25 then 0 else 1) = _
    rw [if_neg hp, e20]
  have hf : ∃ (x1 x2 x3 : Nat → Int64) (x4 : Int32), F_R_finish ((va_up (va_up (va_up (va_up (va_up (va_up (va_up (va_up (va_up (va_up (va_up (va_up (va_up R.1 118 (u1.2.2.2.1)) 119 (u1.2.2.2.2.1)) 120 (u1.2.2.2.2.2.1)) 117 (u1.2.2.2.2.2.2.2.2.1)) 114 (u1.2.2.2.2.2.2.2.2.2.1)) 115 (u1.2.2.2.2.2.2.2.2.2.2.1)) 116 (u1.2.2.2.2.2.2.2.2.2.2.2)) 110 (j.1)) 111 (j.2.1)) 113 (j.2.2.2.2.2.1)) 112 (j.2.2.2.2.2.2.2)) 103 0) 104 9), (va_up (va_up (va_up (va_up (va_up (va_up (va_up R.2.1 101 (u1.1)) 102 (u1.2.1)) 103 (u1.2.2.1)) 107 (u1.2.2.2.2.2.2.1)) 106 (u1.2.2.2.2.2.2.2.1)) 105 (j.2.2.2.2.1)) 104 (j.2.2.2.2.2.2.1)), R.2.2) = (0, x1, x2, x3, x4) ∧ ∃ (y1 : Nat → Int32) (y2 : Nat → Int64) (y3 : Nat → Int32), F_Records_add N (N.1 15) (N.2.1 1) (N.1 25) = (y1, y2, y3, x4) ∧ (0 ≤ x4.toInt ∧ x4.toInt ≤ T + 1) ∧ ∀ k : Nat, k < 16 → (y1 k).toInt64 = x1 k ∧ y2 k = x2 k ∧ (y3 k).toInt64 = x3 k := by
    refine ⟨_, _, _, _, rfl, ?_⟩
    unfold F_Records_add F_Records_add_k1
    rw [e11, b12, fm_pos N (R.1 125) (by rw [Int32.le_iff_toInt_le, i0]; exact b12r.1)]
    refine ⟨_, _, _, rfl, ?_, fun k hk => ?_⟩
    · show 0 ≤ (R.1 125 + 1).toInt ∧ (R.1 125 + 1).toInt ≤ T + 1
      rw [n32_add (by rw [show (1 : Int32).toInt = 1 by decide]; omega) (by rw [show (1 : Int32).toInt = 1 by decide]; omega), show (1 : Int32).toInt = 1 by decide]
      omega
    · obtain ⟨k1, k2, k3⟩ := b12k k hk
      refine ⟨rc_upd _ _ _ k _ _ (by rw [e22]; exact k1) (by rw [e15]; rfl), rc_updL _ _ _ k _ _ (by rw [e22]; exact k2) ed, rc_upd _ _ _ k _ _ (by rw [e22]; exact k3) e25.symm⟩
  have hk0 : ∀ k : Nat, k < 16 → (N.2.2.1 14 k).toInt64 = R.2.2.2 29 k ∧ N.2.2.2 15 k = R.2.2.2 30 k ∧ (N.2.2.1 16 k).toInt64 = R.2.2.2 31 k := by
    rw [e22]; exact b12k
  have hn : N.1 11 = R.1 125 := by rw [e11, b12]
  obtain ⟨x1, x2, x3, x4, f1, y1, y2, y3, f2, f3, f4⟩ := hf
  have d0 : 0 ≤ (0 : Int32).toInt ∧ (0 : Int32).toInt ≤ 100 := by decide
  have d9 : 0 ≤ (9 : Int32).toInt ∧ (9 : Int32).toInt ≤ 9 := by decide
  have d1 : 0 ≤ (R.1 125).toInt ∧ (R.1 125).toInt ≤ T + 1 := by omega
  unfold F_Control_comeToRest F_R_control_j17
  by_cases g2 : j.1 = 2
  · rw [if_pos (e14.trans g2), if_pos g2]
    unfold F_Control_comeToRest_k1 F_R_control_k13
    rw [hz, f1, f2]
    unfold F_Control_comeToRest_k2 F_R_control_k14
    by_cases z : F_Watch_atRest N = 0
    · rw [if_pos z, if_pos z]
      exact ⟨e14, Or.inr rfl, rfl, rfl, d0, d9, ⟨hn, d1⟩, hk0⟩
    · rw [if_neg z, if_neg z]
      exact ⟨rfl, Or.inl rfl, rfl, rfl, d0, d9, ⟨rfl, f3⟩, f4⟩
  · rw [if_neg (fun h => g2 (e14.symm.trans h)), if_neg g2]
    by_cases g3 : j.1 = 3
    · rw [if_pos (e14.trans g3), if_pos g3]
      unfold F_Control_comeToRest_k3 F_R_control_k15
      rw [hz, f1, f2]
      unfold F_Control_comeToRest_k4 F_R_control_k16
      by_cases z : F_Watch_atRest N = 0
      · rw [if_pos z, if_pos z]
        exact ⟨e14, Or.inr rfl, rfl, rfl, d0, d9, ⟨hn, d1⟩, hk0⟩
      · rw [if_neg z, if_neg z]
        exact ⟨rfl, Or.inl rfl, rfl, rfl, d0, d9, ⟨rfl, f3⟩, f4⟩
    · rw [if_neg (fun h => g3 (e14.symm.trans h)), if_neg g3]
      exact ⟨e14, Or.inr rfl, e16, e17, r16, r17, ⟨hn, d1⟩, hk0⟩


