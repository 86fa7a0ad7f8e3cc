theorem xw1 {x z : Int32} (h : z = (if 1 < x then x else 1)) : ¬ z.toInt64 = 0 := by
  have hz : (1 : Int) ≤ z.toInt := by
    rw [h]
    split
    · rename_i h1
      have := Int32.lt_iff_toInt_lt.mp h1
      simp at this
      omega
    · simp
  intro q
  have q1 := congrArg Int64.toInt q
  rw [Int32.toInt_toInt64] at q1
  simp at q1
  omega
theorem xsp {x : Int64} (h : 0 ≤ lg_cmp x 60000) : ¬ x = 0 := by
  rw [lg_cmp_ge] at h
  intro q
  rw [q] at h
  exact absurd h (by decide)
theorem xgt {x : Int64} (h : 0 < lg_cmp x 0) : ¬ x = 0 := by
  intro q
  rw [q] at h
  exact absurd h (by decide)
theorem xnle {x : Int64} (h : ¬ lg_cmp x 0 ≤ 0) : ¬ x = 0 := by
  intro q
  rw [q] at h
  exact absurd (by decide) h
theorem xin_of {x : Int32} {n : Nat} (h0 : 0 ≤ x.toInt) (h1 : x.toInt < n) : vp_in x n := vp_in_iff.mpr ⟨h0, h1⟩
theorem xwit {M : XM} {x a b z : Int32} (h : ¬ z = 0) (hz : z = F_U_within M x a b) : a.toInt ≤ x.toInt ∧ x.toInt ≤ b.toInt := by
  rw [hz, F_U_within] at h
  split at h
  · exact absurd rfl h
  · split at h
    · exact absurd rfl h
    · rename_i h1 h2
      rw [Int32.lt_iff_toInt_lt] at h1 h2
      omega
theorem xex {M : XM} {x z : Int32} (h : ¬ z = 0) (hz : z = F_Rotors_exists M x) : vp_in x 4 := by
  have := xwit (z := z) h (by rw [hz, F_Rotors_exists, F_Rotors_exists_k1])
  refine xin_of ?_ ?_ <;> simp at this ⊢ <;> omega
theorem xsg (x : Int32) : 0 ≤ (x ^^^ 16) ↔ 0 ≤ x := by
  have e : (x ^^^ 16).toBitVec.msb = x.toBitVec.msb := by
    rw [Int32.toBitVec_xor, BitVec.msb_xor]
    have : (16 : Int32).toBitVec.msb = false := by decide
    rw [this]; simp
  have f : ∀ y : Int32, 0 ≤ y ↔ y.toBitVec.msb = false := by
    intro y
    have q : y.toInt = y.toBitVec.toInt := rfl
    rw [Int32.le_iff_toInt_le, BitVec.msb_eq_toInt, q]
    simp
  rw [f, f, e]
theorem xtm (a : Int) : -16 < a.tmod 16 ∧ a.tmod 16 < 16 := by
  refine ⟨?_, Int.tmod_lt_of_pos a (by decide)⟩
  have := Int.tmod_lt_of_pos (-a) (b := 16) (by decide)
  rw [Int.neg_tmod] at this
  omega
theorem xr16 (x : Int32) : (x - x / 16 * 16).toInt = x.toInt.tmod 16 := by
  have h1 := x.toInt_lt
  have h2 := x.le_toInt
  have t1 := Int.tmod_add_mul_tdiv x.toInt 16
  have t2 := xtm x.toInt
  have hd : (x / 16).toInt = x.toInt.tdiv 16 := by
    rw [Int32.toInt_div]
    refine Int.bmod_eq_of_le_mul_two ?_ ?_ <;> simp <;> omega
  rw [Int32.toInt_sub, Int32.toInt_mul, hd]
  simp
  rw [Int.bmod_eq_of_le_mul_two] <;> omega
theorem xfm16 (M : XM) (x : Int32) : vp_in (F_Math_floorMod M x 16) 16 := by
  have h1 := x.toInt_lt
  have t1 := Int.tmod_add_mul_tdiv x.toInt 16
  have t2 := Int.tmod_lt_of_pos x.toInt (b := 16) (by decide)
  have hr := xr16 x
  rw [vp_in_iff, F_Math_floorMod]
  split
  · rename_i h
    rw [xsg, Int32.le_iff_toInt_le] at h
    have t3 := Int.tmod_nonneg 16 (by simpa using h)
    rw [hr]
    exact ⟨t3, by simpa using t2⟩
  · rename_i h
    rw [xsg, Int32.le_iff_toInt_le] at h
    have t4 : -16 < x.toInt.tmod 16 := by
      exact (xtm x.toInt).1
    have t5 : x.toInt.tmod 16 ≤ 0 := by
      rw [show x.toInt = -(-x.toInt) by omega, Int.neg_tmod]
      have := Int.tmod_nonneg (a := -x.toInt) 16 (by simp at h; omega)
      omega
    split
    · rename_i h0
      rw [h0]; decide
    · rename_i h0
      have h0' : (x - x / 16 * 16).toInt ≠ 0 := fun q => h0 (Int32.toInt_inj.mp (by rw [q]; decide))
      rw [Int32.toInt_add, hr]
      rw [hr] at h0'
      simp
      rw [Int.bmod_eq_of_le_mul_two] <;> omega
