theorem xw1 {x z : Int32} (h : z = (if 1 < x then x else 1)) : ¬ z.toInt64 = 0 := by
  have hz : (1 : Int) ≤ z.toInt := by
    rw [h]
    split
    · rename_i h1
      have := Int32.lt_iff_toInt_lt.mp h1
      simp at this
      omega
    · simp
  intro q
  have q1 := congrArg Int64.toInt q
  rw [Int32.toInt_toInt64] at q1
  simp at q1
  omega
theorem xsp {x : Int64} (h : 0 ≤ lg_cmp x 60000) : ¬ x = 0 := by
  rw [lg_cmp_ge] at h
  intro q
  rw [q] at h
  exact absurd h (by decide)
theorem xgt {x : Int64} (h : 0 < lg_cmp x 0) : ¬ x = 0 := by
  intro q
  rw [q] at h
  exact absurd h (by decide)
theorem xnle {x : Int64} (h : ¬ lg_cmp x 0 ≤ 0) : ¬ x = 0 := by
  intro q
  rw [q] at h
  exact absurd (by decide) h
theorem xin_of {x : Int32} {n : Nat} (h0 : 0 ≤ x.toInt) (h1 : x.toInt < n) : vp_in x n := vp_in_iff.mpr ⟨h0, h1⟩
theorem xwit {M : XM} {x a b z : Int32} (h : ¬ z = 0) (hz : z = F_U_within M x a b) : a.toInt ≤ x.toInt ∧ x.toInt ≤ b.toInt := by
  rw [hz, F_U_within] at h
  split at h
  · exact absurd rfl h
  · split at h
    · exact absurd rfl h
    · rename_i h1 h2
      rw [Int32.lt_iff_toInt_lt] at h1 h2
      omega
theorem xex {M : XM} {x z : Int32} (h : ¬ z = 0) (hz : z = F_Rotors_exists M x) : vp_in x 4 := by
  have := xwit (z := z) h (by rw [hz, F_Rotors_exists, F_Rotors_exists_k2])
  refine xin_of ?_ ?_ <;> simp at this ⊢ <;> omega
theorem xfm16 (M : XM) (x : Int32) : vp_in (F_Math_floorMod M x 16) 16 := by
  sorry
