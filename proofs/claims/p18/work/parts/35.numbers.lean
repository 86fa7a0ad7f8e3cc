/-! numbers: what both machines' words say as integers -/
theorem n64_add {x y : Int64} (h1 : -9223372036854775808 ≤ x.toInt + y.toInt) (h2 : x.toInt + y.toInt < 9223372036854775808) : (x + y).toInt = x.toInt + y.toInt := by
  rw [Int64.toInt_add]
  exact Int.bmod_eq_of_le_mul_two (by omega) (by omega)
theorem n64_sub {x y : Int64} (h1 : -9223372036854775808 ≤ x.toInt - y.toInt) (h2 : x.toInt - y.toInt < 9223372036854775808) : (x - y).toInt = x.toInt - y.toInt := by
  rw [Int64.toInt_sub]
  exact Int.bmod_eq_of_le_mul_two (by omega) (by omega)
theorem n64_mul {x y : Int64} (h1 : -9223372036854775808 ≤ x.toInt * y.toInt) (h2 : x.toInt * y.toInt < 9223372036854775808) : (x * y).toInt = x.toInt * y.toInt := by
  rw [Int64.toInt_mul]
  exact Int.bmod_eq_of_le_mul_two (by omega) (by omega)
theorem n64_div {x y : Int64} (hx : 0 ≤ x.toInt) (hy : 0 < y.toInt) : (x / y).toInt = x.toInt / y.toInt := by
  have h := x.toInt_lt
  have h1 : 0 ≤ x.toInt / y.toInt := Int.ediv_nonneg hx (by omega)
  have h2 : x.toInt / y.toInt ≤ x.toInt := Int.ediv_le_self _ hx
  rw [Int64.toInt_div, Int.tdiv_eq_ediv_of_nonneg hx]
  exact Int.bmod_eq_of_le_mul_two (by omega) (by omega)
theorem n32_add {x y : Int32} (h1 : -2147483648 ≤ x.toInt + y.toInt) (h2 : x.toInt + y.toInt < 2147483648) : (x + y).toInt = x.toInt + y.toInt := by
  rw [Int32.toInt_add]
  exact Int.bmod_eq_of_le_mul_two (by omega) (by omega)
theorem n32_sub {x y : Int32} (h1 : -2147483648 ≤ x.toInt - y.toInt) (h2 : x.toInt - y.toInt < 2147483648) : (x - y).toInt = x.toInt - y.toInt := by
  rw [Int32.toInt_sub]
  exact Int.bmod_eq_of_le_mul_two (by omega) (by omega)
theorem n32_div {x y : Int32} (hx : 0 ≤ x.toInt) (hy : 0 < y.toInt) : (x / y).toInt = x.toInt / y.toInt := by
  have h := x.toInt_lt
  have h1 : 0 ≤ x.toInt / y.toInt := Int.ediv_nonneg hx (by omega)
  have h2 : x.toInt / y.toInt ≤ x.toInt := Int.ediv_le_self _ hx
  rw [Int32.toInt_div, Int.tdiv_eq_ediv_of_nonneg hx]
  exact Int.bmod_eq_of_le_mul_two (by omega) (by omega)
theorem n_w (x : Int32) : x.toInt64.toInt = x.toInt := Int32.toInt_toInt64 x
theorem n_n {x : Int64} (h1 : -2147483648 ≤ x.toInt) (h2 : x.toInt < 2147483648) : x.toInt32.toInt = x.toInt := by
  rw [Int64.toInt_toInt32]
  exact Int.bmod_eq_of_le_mul_two (by omega) (by omega)
theorem n_eq {x y : Int64} (h : x.toInt = y.toInt) : x = y := Int64.toInt_inj.mp h
theorem n_eq32 {x y : Int32} (h : x.toInt = y.toInt) : x = y := Int32.toInt_inj.mp h
theorem n_wi {x y : Int32} (h : x.toInt64 = y.toInt64) : x = y := n_eq32 (by rw [← n_w x, ← n_w y, h])
theorem n_cap {x : Int64} (h : 0 ≤ x.toInt) : ((if x < 100000 then x else 100000).toInt32).toInt64 = (if 0 ≤ lg_cmp x 100000 then 100000 else x) ∧ 0 ≤ ((if x < 100000 then x else 100000).toInt32).toInt ∧ ((if x < 100000 then x else 100000).toInt32).toInt ≤ 100000 := by
  have e : (100000 : Int64).toInt = 100000 := by decide
  simp only [lg_cmp_ge, Int64.lt_iff_toInt_lt, Int64.le_iff_toInt_le, e]
  by_cases q : x.toInt < 100000
  · rw [if_pos q, if_neg (by omega)]
    have r : x.toInt32.toInt = x.toInt := n_n (by omega) (by omega)
    exact ⟨n_eq (by rw [n_w, r]), by omega, by omega⟩
  · rw [if_neg q, if_pos (by omega)]
    decide
/-! the relation of both memories: C holds the class's, R the reference's -/
def vSeg (k a b : Int32) : Prop := (k = 0 ∧ (0 ≤ a.toInt ∧ a.toInt ≤ 20000) ∧ (1 ≤ b.toInt ∧ b.toInt ≤ 500)) ∨ (k = 1 ∧ (1 ≤ a.toInt ∧ a.toInt ≤ 100000)) ∨ (k = 2 ∧ (1 ≤ a.toInt ∧ a.toInt ≤ 1000000)) ∨ (k = 3 ∧ (0 ≤ a.toInt ∧ a.toInt ≤ 20000) ∧ (1 ≤ b.toInt ∧ b.toInt ≤ 9)) ∨ (k = 4 ∧ (-2000 ≤ a.toInt ∧ a.toInt ≤ 4000))
def vRT (C R : XM) : Prop := (∀ k, k < 4 → (R.2.2.1 21 k = 0 ∧ C.2.2.1 2 k = -1 ∧ C.2.2.1 5 k = 100) ∨ (¬ R.2.2.1 21 k = 0 ∧ 0 ≤ (C.2.2.1 2 k).toInt ∧ C.2.2.1 2 k = R.2.2.1 22 k ∧ C.2.2.1 3 k = R.2.2.1 23 k ∧ C.2.2.1 4 k = R.2.2.1 24 k ∧ C.2.2.1 5 k = R.2.2.1 25 k ∧ (10 ≤ (R.2.2.1 23 k).toInt ∧ (R.2.2.1 23 k).toInt ≤ 300) ∧ (100 ≤ (R.2.2.1 24 k).toInt ∧ (R.2.2.1 24 k).toInt ≤ 20000) ∧ (1 ≤ (R.2.2.1 25 k).toInt ∧ (R.2.2.1 25 k).toInt ≤ 1000))) ∧ (∀ j k, j < 4 → k < 4 → ¬ C.2.2.1 2 j = -1 → C.2.2.1 2 j = C.2.2.1 2 k → j = k)
def vPG (C R : XM) : Prop := ∀ k : Nat, (k : Int) < (R.1 102).toInt → C.2.2.1 7 k = R.2.2.1 26 k ∧ C.2.2.1 8 k = R.2.2.1 27 k ∧ C.2.2.1 9 k = R.2.2.1 28 k ∧ vSeg (R.2.2.1 26 k) (R.2.2.1 27 k) (R.2.2.1 28 k)
def vA (C R : XM) : Prop := C.1 0 = R.1 101 ∧ (-1 ≤ (R.1 101).toInt ∧ (R.1 101).toInt ≤ 3) ∧ C.1 1 = R.1 102 ∧ (0 ≤ (R.1 102).toInt ∧ (R.1 102).toInt ≤ 12) ∧ C.1 2 = R.1 107 ∧ (-1 ≤ (R.1 107).toInt ∧ (R.1 107).toInt ≤ 1000000) ∧ C.1 3 = R.1 108 ∧ (-1 ≤ (R.1 108).toInt ∧ (R.1 108).toInt ≤ 1000000) ∧ C.1 8 = R.1 121 ∧ C.1 9 = R.1 122 ∧ C.1 12 = R.1 109 ∧ C.1 13 = R.1 124 ∧ C.1 19 = R.1 123 ∧ vRT C R ∧ vPG C R
def vRd (R : XM) (x : Int32) : Prop := x = -1 ∨ ((0 ≤ x.toInt ∧ x.toInt ≤ 3) ∧ ¬ R.2.2.1 21 x.toNatClampNeg = 0)
def vAny (R : XM) (a f x : Int32) : Prop := (a = 0 ∧ x = -1) ∨ (¬ a = 0 ∧ ¬ x = -1 ∧ f = R.2.2.1 22 x.toNatClampNeg)
def vRec (C R : XM) : Prop := ∀ k : Nat, k < 16 → (C.2.2.1 14 k).toInt64 = R.2.2.2 29 k ∧ C.2.2.2 15 k = R.2.2.2 30 k ∧ (C.2.2.1 16 k).toInt64 = R.2.2.2 31 k
def vRun (R : XM) (a t : Int32) : Prop := (0 ≤ a.toInt ∧ a.toInt < (R.1 102).toInt) ∧ (R.2.2.1 26 a.toNatClampNeg = 1 → 0 ≤ t.toInt ∧ t.toInt < (R.2.2.1 27 a.toNatClampNeg).toInt)
def vB (T : Nat) (C R : XM) : Prop := C.1 14 = R.1 110 ∧ (R.1 110 = 0 ∨ R.1 110 = 1 ∨ R.1 110 = 2 ∨ R.1 110 = 3) ∧ C.1 15 = R.1 111 ∧ (C.1 20 = R.1 118 ∧ C.1 21 = R.1 119 ∧ C.1 22 = R.1 120) ∧ (C.1 23 = R.1 116 ∧ vRd R (R.1 116)) ∧ (R.2.1 103 = (C.1 6).toInt64 ∧ (0 ≤ (C.1 6).toInt ∧ (C.1 6).toInt ≤ 100000)) ∧ R.2.1 107 = (C.1 25).toInt64 ∧ C.1 27 = R.1 113 ∧ (R.2.1 104 = (C.1 28).toInt64 ∧ (0 ≤ (C.1 28).toInt ∧ (C.1 28).toInt ≤ 100000)) ∧ C.2.1 1 = R.2.1 105 ∧ (C.2.1 0 = R.2.1 100 ∧ (0 ≤ (R.2.1 100).toInt ∧ (R.2.1 100).toInt ≤ 200000000)) ∧ (C.1 11 = R.1 125 ∧ (0 ≤ (R.1 125).toInt ∧ (R.1 125).toInt ≤ T) ∧ vRec C R) ∧ (R.1 110 = 1 → C.1 26 = R.1 112 ∧ vRun R (R.1 112) (R.1 113)) ∧ ((R.1 110 = 1 ∨ R.1 110 = 2) → C.2.1 2 = R.2.1 106 ∧ C.1 24 = 0 ∧ vAny R (R.1 114) (R.1 115) (R.1 116)) ∧ (R.1 109 = 0 → R.1 103 = 0 ∧ R.1 104 = 0)

/-! what the sensors tell -/
theorem sn_time {C R : XM} (h1 : C.1 2 = R.1 107) (h2 : -1 ≤ (R.1 107).toInt) (h3 : C.2.1 0 = R.2.1 100) (h4 : 0 ≤ (R.2.1 100).toInt) : F_Sensors_sense_j2 C = F_R_sense_j1 R ∧ 0 ≤ (F_R_sense_j1 R).toInt := by
  have e0 : (0 : Int32).toInt = 0 := by decide
  have em : (-1 : Int32).toInt = -1 := by decide
  have e6 : (60000 : Int64).toInt = 60000 := by decide
  have hm : (R.1 107 = -1) ↔ (R.1 107 < 0) := by
    rw [Int32.lt_iff_toInt_lt, ← Int32.toInt_inj, e0, em]; omega
  unfold F_Sensors_sense_j2 F_Sensors_sense_k1 F_Model_microsecondsOfTurn F_R_sense_j1
  rw [h1, h3]
  by_cases q : R.1 107 < 0
  · rw [if_pos (hm.mpr q), if_pos q]
    refine ⟨rfl, ?_⟩
    by_cases g : 0 ≤ lg_cmp (R.2.1 100) 60000
    · rw [if_pos g]
      rw [lg_cmp_ge, Int64.le_iff_toInt_le, e6] at g
      rw [n64_div (by decide) (by omega)]
      exact Int.ediv_nonneg (by decide) h4
    · rw [if_neg g]; decide
  · rw [if_neg (fun g => q (hm.mp g)), if_neg q]
    refine ⟨rfl, ?_⟩
    rw [n_w]
    rw [Int32.lt_iff_toInt_lt, e0] at q
    omega
theorem sn_count {C R : XM} (t t' : Int64) (h1 : C.1 3 = R.1 108) (h2 : -1 ≤ (R.1 108).toInt ∧ (R.1 108).toInt ≤ 1000000) (h3 : C.2.1 0 = R.2.1 100) (h4 : 0 ≤ (R.2.1 100).toInt ∧ (R.2.1 100).toInt ≤ 200000000) : F_Sensors_sense_j5 C t = F_R_sense_j3 R t' ∧ 0 ≤ (F_R_sense_j3 R t').toInt ∧ (F_R_sense_j3 R t').toInt ≤ 1000000 := by
  have e0 : (0 : Int32).toInt = 0 := by decide
  have em : (-1 : Int32).toInt = -1 := by decide
  have e6 : (10000 : Int64).toInt = 10000 := by decide
  have hm : (R.1 108 = -1) ↔ (R.1 108 < 0) := by
    rw [Int32.lt_iff_toInt_lt, ← Int32.toInt_inj, e0, em]; omega
  unfold F_Sensors_sense_j5 F_Sensors_sense_k4 F_Model_countInTick F_R_sense_j3
  rw [h1, h3]
  by_cases q : R.1 108 < 0
  · rw [if_pos (hm.mpr q), if_pos q]
    refine ⟨rfl, ?_⟩
    rw [n64_div (by omega) (by omega), e6]
    omega
  · rw [if_neg (fun g => q (hm.mp g)), if_neg q]
    refine ⟨rfl, ?_⟩
    rw [n_w]
    rw [Int32.lt_iff_toInt_lt, e0] at q
    omega
theorem sn_tacho (C R : XM) (t c : Int64) (h : 0 ≤ t.toInt) : (F_Sensors_sense_j8 C t c).toInt64 = F_R_sense_j7 R t c (F_R_sense_j5 R t c) ∧ 0 ≤ (F_Sensors_sense_j8 C t c).toInt ∧ (F_Sensors_sense_j8 C t c).toInt ≤ 100000 := by
  unfold F_Sensors_sense_j8 F_Sensors_sense_k7 F_R_sense_j7 F_R_sense_j5
  have e0 : (0 : Int64).toInt = 0 := by decide
  by_cases q : t = 0
  · subst q
    decide
  · have q1 : ¬ lg_cmp t 0 = 0 := fun g => q ((lg_cmp_eq t 0).mp g)
    have q3 : ¬ t.toInt = 0 := fun g => q (n_eq (by rw [g, e0]))
    have q2 : 0 < lg_cmp t 0 := by
      rw [lg_cmp_gt, Int64.lt_iff_toInt_lt, e0]
      omega
    rw [if_pos q2, if_neg q1]
    refine n_cap ?_
    rw [n64_div (by decide) (by omega)]
    exact Int.ediv_nonneg (by decide) h
theorem sn_comm (R : XM) (t c a b : Int64) (h : 0 ≤ c.toInt ∧ c.toInt ≤ 1000000) : ((if 10 * c < 100000 then 10 * c else 100000).toInt32).toInt64 = F_R_sense_j9 R t c a b ∧ 0 ≤ ((if 10 * c < 100000 then 10 * c else 100000).toInt32).toInt ∧ ((if 10 * c < 100000 then 10 * c else 100000).toInt32).toInt ≤ 100000 := by
  unfold F_R_sense_j9
  have e : (10 : Int64).toInt = 10 := by decide
  refine n_cap ?_
  rw [n64_mul (by rw [e]; omega) (by rw [e]; omega), e]
  omega
theorem sn_max (x y : Int32) : (if lg_cmp x.toInt64 y.toInt64 ≤ 0 then y.toInt64 else x.toInt64) = (if x < y then y else x).toInt64 := by
  simp only [lg_cmp_le, Int64.le_iff_toInt_le, n_w, Int32.lt_iff_toInt_lt]
  by_cases q : x.toInt < y.toInt
  · rw [if_pos q, if_pos (by omega)]
  · rw [if_neg q]
    by_cases r : x.toInt ≤ y.toInt
    · rw [if_pos r]
      exact congrArg Int32.toInt64 (n_eq32 (by omega))
    · rw [if_neg r]
theorem sn_max2 (x y : Int32) : (if lg_cmp y.toInt64 x.toInt64 ≤ 0 then x.toInt64 else y.toInt64) = (if x < y then y else x).toInt64 := by
  simp only [lg_cmp_le, Int64.le_iff_toInt_le, n_w, Int32.lt_iff_toInt_lt]
  by_cases q : x.toInt < y.toInt
  · rw [if_pos q, if_neg (by omega)]
  · rw [if_neg q, if_pos (by omega)]
theorem sn_min (x y : Int32) : (if 0 ≤ lg_cmp x.toInt64 y.toInt64 then y.toInt64 else x.toInt64) = (if y < x then y else x).toInt64 := by
  simp only [lg_cmp_ge, Int64.le_iff_toInt_le, n_w, Int32.lt_iff_toInt_lt]
  by_cases q : y.toInt < x.toInt
  · rw [if_pos q, if_pos (by omega)]
  · rw [if_neg q]
    by_cases r : y.toInt ≤ x.toInt
    · rw [if_pos r]
      exact congrArg Int32.toInt64 (n_eq32 (by omega))
    · rw [if_neg r]
theorem sn_rest (R : XM) (a b c d e : Int64) (u : Int32) (N : XM) (h6 : N.1 6 = u) (h : N.1 20 = R.1 118) : F_Watch_count_j1 N = F_R_sense_j13 R a b c d e u.toInt64 := by
  unfold F_Watch_count_j1 F_R_sense_j13
  rw [h6, h]
  have g : (lg_cmp u.toInt64 0 = 0) ↔ u = 0 := by
    rw [lg_cmp_eq]
    exact ⟨fun q => n_wi (y := 0) q, fun q => by rw [q]; rfl⟩
  simp only [g]
theorem sn_shake (R : XM) (a b c d e : Int64) (r1 r2 : Int32) (u : Int32) (N : XM) (hu : 0 ≤ u.toInt ∧ u.toInt ≤ 100000) (h6 : N.1 6 = u) (h19 : N.1 19 = R.1 123) (h : N.1 21 = R.1 119) : F_Watch_count_j3 N r1 = F_R_sense_j15 R a b c d e u.toInt64 r2 := by
  unfold F_Watch_count_j3 F_R_sense_j15
  rw [h6, h, h19]
  have e1 : (20 : Int32).toInt = 20 := by decide
  have e2 : (200 : Int32).toInt = 200 := by decide
  have e3 : (20 : Int64).toInt = 20 := by decide
  have e4 : (200 : Int64).toInt = 200 := by decide
  have d1 : (u / 20).toInt = u.toInt / 20 := by rw [n32_div hu.1 (by omega), e1]
  have d2 : (u.toInt64 / 20).toInt = u.toInt / 20 := by rw [n64_div (by rw [n_w]; exact hu.1) (by omega), e3, n_w]
  have s1 : (200 + u / 20).toInt = 200 + u.toInt / 20 := by rw [n32_add (by omega) (by omega), d1, e2]
  have s2 : (200 + u.toInt64 / 20).toInt = 200 + u.toInt / 20 := by rw [n64_add (by omega) (by omega), d2, e4]
  have g : (lg_cmp (R.1 123).toInt64 (200 + u.toInt64 / 20) ≤ 0) ↔ R.1 123 ≤ 200 + u / 20 := by
    rw [lg_cmp_le, Int64.le_iff_toInt_le, Int32.le_iff_toInt_le, s1, s2, n_w]
  simp only [g]
theorem sn_diff (R : XM) (a b c : Int64) (r1 r2 r3 r4 : Int32) (x y : Int32) (N : XM) (hx : 0 ≤ x.toInt ∧ x.toInt ≤ 100000) (hy : 0 ≤ y.toInt ∧ y.toInt ≤ 100000) (h6 : N.1 6 = if x < y then y else x) (h7 : N.1 7 = if y < x then y else x) (h : N.1 22 = R.1 120) : F_Watch_count_j5 N r1 r2 = F_R_sense_j19 R a b c x.toInt64 y.toInt64 (if x < y then y else x).toInt64 r3 r4 (F_R_sense_j17 R a b c x.toInt64 y.toInt64 (if x < y then y else x).toInt64 r3 r4) := by
  have eu : (if x < y then y else x).toInt = if x.toInt < y.toInt then y.toInt else x.toInt := by
    simp only [Int32.lt_iff_toInt_lt]
    by_cases q : x.toInt < y.toInt
    · rw [if_pos q, if_pos q]
    · rw [if_neg q, if_neg q]
  have el : (if y < x then y else x).toInt = if y.toInt < x.toInt then y.toInt else x.toInt := by
    simp only [Int32.lt_iff_toInt_lt]
    by_cases q : y.toInt < x.toInt
    · rw [if_pos q, if_pos q]
    · rw [if_neg q, if_neg q]
  unfold F_Watch_count_j5 F_R_sense_j19
  rw [h6, h7, h]
  generalize hU : (if x < y then y else x) = u at *
  generalize hV : (if y < x then y else x) = v at *
  have hu : 0 ≤ u.toInt ∧ u.toInt ≤ 100000 := by rw [eu]; split <;> omega
  have hv : 0 ≤ v.toInt ∧ v.toInt ≤ 100000 := by rw [el]; split <;> omega
  have e1 : (10 : Int32).toInt = 10 := by decide
  have e2 : (100 : Int32).toInt = 100 := by decide
  have e3 : (10 : Int64).toInt = 10 := by decide
  have e4 : (100 : Int64).toInt = 100 := by decide
  have d1 : (u / 10).toInt = u.toInt / 10 := by rw [n32_div hu.1 (by omega), e1]
  have d2 : (u.toInt64 / 10).toInt = u.toInt / 10 := by rw [n64_div (by rw [n_w]; exact hu.1) (by omega), e3, n_w]
  have s1 : (100 + u / 10).toInt = 100 + u.toInt / 10 := by rw [n32_add (by omega) (by omega), d1, e2]
  have s2 : (100 + u.toInt64 / 10).toInt = 100 + u.toInt / 10 := by rw [n64_add (by omega) (by omega), d2, e4]
  have s3 : (u - v).toInt = u.toInt - v.toInt := n32_sub (by omega) (by omega)
  have s4 : (F_R_sense_j17 R a b c x.toInt64 y.toInt64 u.toInt64 r3 r4).toInt = u.toInt - v.toInt := by
    unfold F_R_sense_j17
    simp only [lg_cmp_le, Int64.le_iff_toInt_le, n_w]
    rw [eu, el]
    by_cases q : x.toInt ≤ y.toInt
    · rw [if_pos q, n64_sub (by rw [n_w, n_w]; omega) (by rw [n_w, n_w]; omega), n_w, n_w]
      by_cases r : x.toInt < y.toInt
      · rw [if_pos r, if_neg (by omega)]
      · rw [if_neg r, if_neg (by omega)]; omega
    · rw [if_neg q, n64_sub (by rw [n_w, n_w]; omega) (by rw [n_w, n_w]; omega), n_w, n_w, if_neg (by omega), if_pos (by omega)]
  have g : (lg_cmp (F_R_sense_j17 R a b c x.toInt64 y.toInt64 u.toInt64 r3 r4) (100 + u.toInt64 / 10) ≤ 0) ↔ u - v ≤ 100 + u / 10 := by
    rw [lg_cmp_le, Int64.le_iff_toInt_le, Int32.le_iff_toInt_le, s1, s2, s3, s4]
  simp only [g]
/-! the rotor's pattern -/
theorem vRT_pat {C R : XM} (h : vRT C R) {k : Nat} (hk : k < 4) {p : Int32} (hp : ¬ p = -1) : C.2.2.1 2 k = p ↔ (¬ R.2.2.1 21 k = 0 ∧ R.2.2.1 22 k = p) := by
  rcases h.1 k hk with ⟨h1, h2, -⟩ | ⟨h1, h2, h3, -⟩
  · rw [h1, h2]
    constructor
    · intro q; exact absurd q.symm hp
    · intro q; exact absurd rfl q.1
  · rw [h3]
    exact ⟨fun q => ⟨h1, q⟩, fun q => q.2⟩
theorem vRT_none {C R : XM} (h : vRT C R) {k : Nat} (hk : k < 4) : ¬ (¬ R.2.2.1 21 k = 0 ∧ R.2.2.1 22 k = -1) := by
  rintro ⟨q1, q2⟩
  rcases h.1 k hk with ⟨h1, h2, -⟩ | ⟨h1, h2, h3, -⟩
  · exact q1 h1
  · rw [h3, q2] at h2
    exact absurd h2 (by decide)
theorem clamp_lt {x : Int32} {n : Nat} (h : 0 ≤ x.toInt) (h2 : x.toInt < n) : x.toNatClampNeg < n := by
  have e : x.toNatClampNeg = x.toInt.toNat := rfl
  omega
theorem pt_in {C R : XM} (h0 : C.1 0 = R.1 101) (h1 : -1 ≤ (R.1 101).toInt ∧ (R.1 101).toInt ≤ 3) (hT : vRT C R) : F_Rotors_patternIn C = (if (R.1 101) < 0 then (-1) else (if ((R.2.2.1 21) ((R.1 101)).toNatClampNeg) = 0 then (-1) else ((R.2.2.1 22) ((R.1 101)).toNatClampNeg))) := by
  unfold F_Rotors_patternIn F_Rotors_patternIn_k1 F_Rotors_exists F_Rotors_exists_k1
  rw [h0]
  have g := wi_iff C (R.1 101) 0 3
  rw [show (0 : Int32).toInt = 0 by decide, show (3 : Int32).toInt = 3 by decide] at g
  by_cases q : R.1 101 < 0
  · rw [if_pos q]
    rw [Int32.lt_iff_toInt_lt, show (0 : Int32).toInt = 0 by decide] at q
    by_cases r : F_U_within C (R.1 101) 0 3 = 0
    · rw [if_pos r]
    · have := g.mp r
      omega
  · rw [if_neg q]
    rw [Int32.lt_iff_toInt_lt, show (0 : Int32).toInt = 0 by decide] at q
    rw [if_neg (g.mpr (by omega))]
    have hk : (R.1 101).toNatClampNeg < 4 := clamp_lt (by omega) (by omega)
    rcases hT.1 _ hk with ⟨k1, k2, -⟩ | ⟨k1, k2, k3, -⟩
    · rw [if_pos k1, k2]
    · rw [if_neg k1, k3]
theorem wp_spec (C : XM) (p : Int32) : F_Rotors_withPattern C p = -1 ∨ (∃ k : Nat, k < 4 ∧ F_Rotors_withPattern C p = nI k ∧ C.2.2.1 2 k = p ∧ ¬ p = -1) := by
  unfold F_Rotors_withPattern
  by_cases hp : p = -1
  · left; rw [if_pos hp]
  rw [if_neg hp]
  by_cases q0 : C.2.2.1 2 0 = p
  · right; rw [if_pos q0]; exact ⟨0, by decide, rfl, q0, hp⟩
  rw [if_neg q0]
  by_cases q1 : C.2.2.1 2 1 = p
  · right; rw [if_pos q1]; exact ⟨1, by decide, rfl, q1, hp⟩
  rw [if_neg q1]
  by_cases q2 : C.2.2.1 2 2 = p
  · right; rw [if_pos q2]; exact ⟨2, by decide, rfl, q2, hp⟩
  rw [if_neg q2]
  by_cases q3 : C.2.2.1 2 3 = p
  · right; rw [if_pos q3]; exact ⟨3, by decide, rfl, q3, hp⟩
  rw [if_neg q3]
  left; rfl
/-- the reference's last match is the class's first one -/
theorem fd_eq {C R N : XM} (hT : vRT C R) (h21 : N.2.2.1 21 = R.2.2.1 21) (h22 : N.2.2.1 22 = R.2.2.1 22) (p : Int32) : F_R_read_j7 N p (F_R_read_j1 N p) (F_R_read_j3 N p (F_R_read_j1 N p)) (F_R_read_j5 N p (F_R_read_j1 N p) (F_R_read_j3 N p (F_R_read_j1 N p))) = F_Rotors_withPattern C p := by
  have ite2 : ∀ (P Q : Prop) [Decidable P] [Decidable Q] (x y : Int32), (if P then y else if Q then x else y) = if ¬ P ∧ Q then x else y := by
    intro P Q _ _ x y
    by_cases a : P <;> by_cases b : Q <;> simp [a, b]
  unfold F_R_read_j7 F_R_read_j5 F_R_read_j3 F_R_read_j1 F_Rotors_withPattern
  rw [h21, h22]
  simp only [ite2]
  by_cases hp : p = -1
  · subst hp
    rw [if_pos rfl, if_neg (vRT_none hT (by decide)), if_neg (vRT_none hT (by decide)), if_neg (vRT_none hT (by decide)), if_neg (vRT_none hT (by decide))]
  rw [if_neg hp]
  have d : ∀ j k, j < 4 → k < 4 → C.2.2.1 2 j = p → C.2.2.1 2 k = p → j = k := fun j k hj hk e1 e2 => hT.2 j k hj hk (by rw [e1]; exact hp) (by rw [e1, e2])
  have d01 := d 0 1 (by decide) (by decide)
  have d02 := d 0 2 (by decide) (by decide)
  have d03 := d 0 3 (by decide) (by decide)
  have d12 := d 1 2 (by decide) (by decide)
  have d13 := d 1 3 (by decide) (by decide)
  have d23 := d 2 3 (by decide) (by decide)
  simp only [← vRT_pat hT (k := 0) (by decide) hp, ← vRT_pat hT (k := 1) (by decide) hp, ← vRT_pat hT (k := 2) (by decide) hp, ← vRT_pat hT (k := 3) (by decide) hp]
  by_cases q0 : C.2.2.1 2 0 = p <;> by_cases q1 : C.2.2.1 2 1 = p <;> by_cases q2 : C.2.2.1 2 2 = p <;> by_cases q3 : C.2.2.1 2 3 = p <;>
  first
  | (exact absurd (d01 q0 q1) (by decide)) | (exact absurd (d02 q0 q2) (by decide)) | (exact absurd (d03 q0 q3) (by decide)) | (exact absurd (d12 q1 q2) (by decide)) | (exact absurd (d13 q1 q3) (by decide)) | (exact absurd (d23 q2 q3) (by decide))
  | simp [q0, q1, q2, q3]
/-- what one reading leaves: turns 0, the rotor read, the first pattern -/
theorem rd_all {C R N : XM} (hT : vRT C R) (h21 : N.2.2.1 21 = R.2.2.1 21) (h22 : N.2.2.1 22 = R.2.2.1 22) (h114 : N.1 114 = R.1 114) (h115 : N.1 115 = R.1 115) (h116 : N.1 116 = R.1 116) (hr : C.1 23 = R.1 116) (hd : vRd R (R.1 116)) (hw : C.1 24 = 0) (hy : vAny R (R.1 114) (R.1 115) (R.1 116)) (p : Int32) (hp : F_Rotors_patternIn C = p) (P : Int32 × Int32 × Int32 × Int32) (hP : P = F_R_read N p) (q : Int64 × Int32 × Int32) (hq : q = F_Run_readPattern C) : q.1 = 0 ∧ q.2.2 = P.2.2.2 ∧ vRd R P.2.2.2 ∧ (q.2.1 = 0 ↔ P.1 = 0) ∧ (P.1 = 0 → vAny R P.2.1 P.2.2.1 P.2.2.2) := by
  have f := fd_eq hT h21 h22 p
  have w := wp_spec C p
  unfold F_Run_readPattern F_Run_readPattern_k1 at hq
  unfold F_R_read F_R_read_k2 F_R_read_k4 F_R_read_k6 at hP
  rw [hp] at hq
  rw [f] at hP
  unfold F_Run_readPattern_k2 at hq
  unfold F_R_read_k8 F_R_read_k10 F_R_read_j9 at hP
  rw [h114, h115, h116] at hP
  rw [hr, hw] at hq
  generalize F_Rotors_withPattern C p = z at hq hP w
  rcases w with rfl | ⟨k, hk, rfl, hk2, hp1⟩
  · rw [if_pos rfl] at hq
    rw [if_pos (show (-1 : Int32) < 0 by decide)] at hP
    rcases hy with ⟨y1, y2⟩ | ⟨y1, y2, y3⟩
    · rw [if_pos y1] at hP
      subst hq; subst hP
      exact ⟨rfl, y2, Or.inl rfl, ⟨fun (g : (1 : Int32) = 0) => absurd g (by decide), fun (g : (1 : Int32) = 0) => absurd g (by decide)⟩, fun (g : (1 : Int32) = 0) => absurd g (by decide)⟩
    · rw [if_neg y1] at hP
      subst hq; subst hP
      exact ⟨rfl, rfl, hd, ⟨fun (g : (1 : Int32) = 0) => absurd g (by decide), fun (g : (1 : Int32) = 0) => absurd g (by decide)⟩, fun (g : (1 : Int32) = 0) => absurd g (by decide)⟩
  · have kl : k < 2 ^ 31 := by omega
    have kc : (nI k).toNatClampNeg = k := nI_clamp kl
    have ki : (nI k).toInt = k := nI_toInt kl
    have kn : ¬ nI k = -1 := fun g => by
      rw [g] at ki
      rw [show (-1 : Int32).toInt = -1 by decide] at ki
      omega
    have kz : ¬ nI k < 0 := by
      rw [Int32.lt_iff_toInt_lt, ki, show (0 : Int32).toInt = 0 by decide]; omega
    have kt := (vRT_pat hT hk hp1).mp hk2
    have kd : vRd R (nI k) := Or.inr ⟨by rw [ki]; omega, by rw [kc]; exact kt.1⟩
    rw [if_neg kn] at hq
    rw [if_neg kz] at hP
    rcases hy with ⟨y1, y2⟩ | ⟨y1, y2, y3⟩
    · rw [if_pos y2] at hq
      rw [if_pos y1, if_pos y1] at hP
      subst hq; subst hP
      exact ⟨rfl, rfl, kd, ⟨fun _ => rfl, fun _ => rfl⟩, fun _ => Or.inr ⟨(by decide : ¬ (1 : Int32) = 0), kn, (by show p = R.2.2.1 22 (nI k).toNatClampNeg; rw [kc]; exact kt.2.symm)⟩⟩
    · rw [if_neg y2] at hq
      rw [if_neg y1, if_neg y1] at hP
      by_cases g : nI k = R.1 116
      · have ga : p = R.1 115 := by rw [y3, ← g, kc]; exact kt.2.symm
        rw [if_pos g] at hq
        rw [if_pos ga] at hP
        subst hq; subst hP
        exact ⟨rfl, g, hd, ⟨fun _ => rfl, fun _ => rfl⟩, fun _ => Or.inr ⟨y1, y2, y3⟩⟩
      · rcases hd with hd | ⟨hd1, hd2⟩
        · exact absurd hd y2
        have hc : (R.1 116).toNatClampNeg < 4 := clamp_lt hd1.1 (by omega)
        have hci : ((R.1 116).toNatClampNeg : Int) = (R.1 116).toInt := by
          have e : (R.1 116).toNatClampNeg = (R.1 116).toInt.toNat := rfl
          omega
        have ga : ¬ p = R.1 115 := by
          intro e
          have e2 : C.2.2.1 2 (R.1 116).toNatClampNeg = p := (vRT_pat hT hc hp1).mpr ⟨hd2, by rw [e, y3]⟩
          have e3 := hT.2 _ _ hk hc (by rw [hk2]; exact hp1) (by rw [hk2, e2])
          apply g
          apply n_eq32
          rw [ki, e3, hci]
        rw [if_neg g] at hq
        rw [if_neg ga] at hP
        subst hq; subst hP
        exact ⟨rfl, rfl, Or.inr ⟨hd1, hd2⟩, ⟨fun (g : (1 : Int32) = 0) => absurd g (by decide), fun (g : (1 : Int32) = 0) => absurd g (by decide)⟩, fun (g : (1 : Int32) = 0) => absurd g (by decide)⟩


