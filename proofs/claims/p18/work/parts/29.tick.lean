def GR_no (M : XM) (a1 : Int32) (z1 : Int32) : Int32 := (if z1 = 0 then 1 else 0)
theorem tick_noR {M : XM} {a1 : Int32} {z1 j2 : Int32} {p5 : Int32 × Int32} (h : F_R_in M a1.toInt64 1 2000 = 0) (hz : z1 = F_R_in M a1.toInt64 1 2000) (hj : j2 = GR_no M a1 z1) (hp : p5 = F_R_throwing M j2 0) : p5.1 = 1 ∧ p5.2 = 1 := by
  rw [GR_no, hz, if_pos h] at hj
  rw [hp, hj]
  have e : F_R_throwing_j1 M 1 0 = 1 := by rw [F_R_throwing_j1, if_neg (by decide)]
  rw [F_R_throwing, F_R_throwing_k2, e]
  decide
set_option maxHeartbeats 4000000 in
set_option maxRecDepth 100000 in
theorem c_R_tick0 (l : Launch) (dC : Nat → ClassId) (dI : Nat → Nat → Nat) (Z : Nat → ClassId) (A : Nat → Nat) (sz : Nat) (M : XM) (a1 : Int32) (hin1 : F_R_in M a1.toInt64 1 2000 = 0) : Met l y_R_tick (.code y_R_tick bc_R_tick 3 (some .int) :: xw) ({ frames := 3, cells := 0, slots := 0, locals := 72 }) (va_Pc [.ref (A 20), .int a1] (xB (dC, dI) xcl (xty Z) sz [(A 20, xc20 Z A M), (A 21, xc21 Z A M), (A 22, xc22 Z A M), (A 23, xc23 Z A M), (A 24, xc24 Z A M), (A 25, xc25 Z A M), (A 26, xc26 Z A M), (A 27, xc27 Z A M), (A 28, xc28 Z A M), (A 29, xc29 Z A M), (A 30, xc30 Z A M), (A 31, xc31 Z A M)])) (va_Qi (fun (r : Int32) (N : XM) => (r, N) = ((0 : Int32), (va_up M.1 100 1, M.2))) (fun N => xE (dC, dI) xcl (xty Z) (va_A [(A 20, xc20 Z A M), (A 21, xc21 Z A M), (A 22, xc22 Z A M), (A 23, xc23 Z A M), (A 24, xc24 Z A M), (A 25, xc25 Z A M), (A 26, xc26 Z A M), (A 27, xc27 Z A M), (A 28, xc28 Z A M), (A 29, xc29 Z A M), (A 30, xc30 Z A M), (A 31, xc31 Z A M)] sz) [(A 20, xc20 Z A N), (A 21, xc21 Z A N), (A 22, xc22 Z A N), (A 23, xc23 Z A N), (A 24, xc24 Z A N), (A 25, xc25 Z A N), (A 26, xc26 Z A N), (A 27, xc27 Z A N), (A 28, xc28 Z A N), (A 29, xc29 Z A N), (A 30, xc30 Z A N), (A 31, xc31 Z A N)]) (va_A [(A 20, xc20 Z A M), (A 21, xc21 Z A M), (A 22, xc22 Z A M), (A 23, xc23 Z A M), (A 24, xc24 Z A M), (A 25, xc25 Z A M), (A 26, xc26 Z A M), (A 27, xc27 Z A M), (A 28, xc28 Z A M), (A 29, xc29 Z A M), (A 30, xc30 Z A M), (A 31, xc31 Z A M)] sz)) 0 0 (va_A [(A 20, xc20 Z A M), (A 21, xc21 Z A M), (A 22, xc22 Z A M), (A 23, xc23 Z A M), (A 24, xc24 Z A M), (A 25, xc25 Z A M), (A 26, xc26 Z A M), (A 27, xc27 Z A M), (A 28, xc28 Z A M), (A 29, xc29 Z A M), (A 30, xc30 Z A M), (A 31, xc31 Z A M)] sz) := by
  refine Met.ofW (cc := bc_R_tick) (maxL := 3) (ret := (some .int)) (by decide) rfl ?_
  intro p e s m args below meth c s₁ B hml hv
  obtain ⟨rfl, hsz, hP, hK, hD0, hq⟩ := hv
  have hx := B.exec
  have hb := B.bytes
  have hr := B.returns
  have hts := atoms_spec (ws := (.code y_R_tick bc_R_tick 3 (some .int) :: xw)) B.pre
  have htt : ∀ w ∈ xw, w.before _ s = true := fun w h => hts w (List.mem_cons_of_mem _ h)
  have hown : s.vm.findClass "CentrifugeUnitModel" = some m.cls := findClass_of_methodNamed B.named
  have hlocks := B.notSynchronized
  subst hsz
  have hD := hD0.self (sz := s.heap.size)
  generalize hAe : va_A [(A 20, xc20 Z A M), (A 21, xc21 Z A M), (A 22, xc22 Z A M), (A 23, xc23 Z A M), (A 24, xc24 Z A M), (A 25, xc25 Z A M), (A 26, xc26 Z A M), (A 27, xc27 Z A M), (A 28, xc28 Z A M), (A 29, xc29 Z A M), (A 30, xc30 Z A M), (A 31, xc31 Z A M)] s.heap.size = AA at hD ⊢
  have hA : ∀ q : Nat, s.heap.size ≤ q → AA q := fun q h => by rw [← hAe]; exact Or.inr h
  have hS : va_S AA s.heap s.heap [] := va_S.rf
  have hl := lv_entry ([.ref (A 20), .int a1]) (n := 3) (Nat.le_of_ble_eq_true rfl)
  rw [lg_entry_eq]
  generalize (lg_sl ([.ref (A 20), .int a1]) ++ List.replicate (3 - (lg_sl ([.ref (A 20), .int a1])).length) Slot.unset).toArray = ls at hl ⊢
  have hl : lv_has ls 3 [(0, .ref (A 20)), (1, .int a1)] := hl
  have hP : va_P (dC, dI) xcl [(A 20, .inr (10, [.int (M.1 100), .ref (A 21), .ref (A 22), .ref (A 23), .ref (A 24), .ref (A 25), .int (M.1 101), .ref (A 26), .ref (A 27), .ref (A 28), .int (M.1 102), .long (M.2.1 100), .int (M.1 103), .int (M.1 104), .int (M.1 105), .int (M.1 106), .int (M.1 107), .int (M.1 108), .long (M.2.1 101), .long (M.2.1 102), .long (M.2.1 103), .int (M.1 109), .int (M.1 110), .int (M.1 111), .int (M.1 112), .int (M.1 113), .long (M.2.1 104), .long (M.2.1 105), .long (M.2.1 106), .int (M.1 114), .int (M.1 115), .int (M.1 116), .int (M.1 117), .int (M.1 118), .int (M.1 119), .int (M.1 120), .int (M.1 121), .int (M.1 122), .int (M.1 123), .int (M.1 124), .long (M.2.1 107), .int (M.1 125), .ref (A 29), .ref (A 30), .ref (A 31)])), (A 21, .inl (Z 2, 4, .inl (M.2.2.1 21))), (A 22, .inl (Z 0, 4, .inl (M.2.2.1 22))), (A 23, .inl (Z 0, 4, .inl (M.2.2.1 23))), (A 24, .inl (Z 0, 4, .inl (M.2.2.1 24))), (A 25, .inl (Z 0, 4, .inl (M.2.2.1 25))), (A 26, .inl (Z 0, 12, .inl (M.2.2.1 26))), (A 27, .inl (Z 0, 12, .inl (M.2.2.1 27))), (A 28, .inl (Z 0, 12, .inl (M.2.2.1 28))), (A 29, .inl (Z 1, 16, .inr (.inl (M.2.2.2 29)))), (A 30, .inl (Z 1, 16, .inr (.inl (M.2.2.2 30)))), (A 31, .inl (Z 1, 16, .inr (.inl (M.2.2.2 31))))] s.heap := hP
  have hD : va_D AA [(A 20, .inr (10, [.int (M.1 100), .ref (A 21), .ref (A 22), .ref (A 23), .ref (A 24), .ref (A 25), .int (M.1 101), .ref (A 26), .ref (A 27), .ref (A 28), .int (M.1 102), .long (M.2.1 100), .int (M.1 103), .int (M.1 104), .int (M.1 105), .int (M.1 106), .int (M.1 107), .int (M.1 108), .long (M.2.1 101), .long (M.2.1 102), .long (M.2.1 103), .int (M.1 109), .int (M.1 110), .int (M.1 111), .int (M.1 112), .int (M.1 113), .long (M.2.1 104), .long (M.2.1 105), .long (M.2.1 106), .int (M.1 114), .int (M.1 115), .int (M.1 116), .int (M.1 117), .int (M.1 118), .int (M.1 119), .int (M.1 120), .int (M.1 121), .int (M.1 122), .int (M.1 123), .int (M.1 124), .long (M.2.1 107), .int (M.1 125), .ref (A 29), .ref (A 30), .ref (A 31)])), (A 21, .inl (Z 2, 4, .inl (M.2.2.1 21))), (A 22, .inl (Z 0, 4, .inl (M.2.2.1 22))), (A 23, .inl (Z 0, 4, .inl (M.2.2.1 23))), (A 24, .inl (Z 0, 4, .inl (M.2.2.1 24))), (A 25, .inl (Z 0, 4, .inl (M.2.2.1 25))), (A 26, .inl (Z 0, 12, .inl (M.2.2.1 26))), (A 27, .inl (Z 0, 12, .inl (M.2.2.1 27))), (A 28, .inl (Z 0, 12, .inl (M.2.2.1 28))), (A 29, .inl (Z 1, 16, .inr (.inl (M.2.2.2 29)))), (A 30, .inl (Z 1, 16, .inr (.inl (M.2.2.2 30)))), (A 31, .inl (Z 1, 16, .inr (.inl (M.2.2.2 31))))] := hD
  refine lv_aload_n hx hb d_R_tick_0 rfl (lv_at hl 0 rfl) ?_
  refine lv_iload_n hx hb d_R_tick_1 rfl (lv_at hl 1 rfl) ?_
  refine lv_i2l (v := (a1).toInt64) hx hb d_R_tick_2 rfl ?_
  refine lv_lconst (v := 1) hx hb d_R_tick_3 (by decide) ?_
  refine lv_ldc2 (v := 2000) hx hb hown (htt _ tw_1002) d_R_tick_4 ?_
  have hPc := hP.sub (ws' := []) [] rfl
  have hDc := hD.sub (ws' := []) [] (by decide) rfl
  refine xk_p (va_runS (As := [.long (a1).toInt64, .long 1, .long 2000]) (rest := [.ref (A 20)]) ⟨hx, hb, hml, hown, hts⟩ (c_R_in l dC dI Z A _ M (a1).toInt64 1 2000) (va_cwS 3 hts (xw_S _ tw_925 tw_926 tw_12 tw_927) rfl rfl rfl (by decide +kernel) ⟨Nat.le_of_ble_eq_true rfl, Nat.le_of_ble_eq_true rfl⟩) ⟨xB_blind, fun U hU hW => ⟨rfl, xB_at hPc hK hDc hq U hU hW⟩⟩ rfl rfl hl.1 rfl (lv_room (Nat.le_of_ble_eq_true rfl)) d_R_tick_7 ⟨Nat.le_of_ble_eq_true rfl, Nat.le_of_ble_eq_true rfl⟩) ?_
  refine lv_topi (fun z1 hz1 => ?_)
  refine xj_p 3 18 (fun q9 : Int32 => [(0, .ref (A 20)), (1, .int a1)]) (fun q9 : Int32 => [.int q9, .ref (A 20)]) (fun q9 : Int32 => q9 = GR_no M a1 z1) (fun hJ3 => ?_) (fun ls j2 hl hj2 => ?_)
  · refine lv_if_ne (tgt := 17) hx hb d_R_tick_10 rfl (fun h8 => ?_) (fun h8 => ?_)
    · refine lv_iconst (v := 0) hx hb d_R_tick_17 (by decide) ?_
      exact hJ3 _ 0 (lv_sub hl [0, 1] rfl) (by rw [GR_no, if_neg h8])
    · refine lv_iconst (v := 1) hx hb d_R_tick_13 (by decide) ?_
      refine lv_goto (tgt := 18) hx hb d_R_tick_14 rfl ?_
      exact hJ3 _ 1 (lv_sub hl [0, 1] rfl) (by rw [GR_no, if_pos h8])
  · refine lv_iconst (v := 0) hx hb d_R_tick_18 (by decide) ?_
    have hPc := hP.sub (ws' := [(A 20, xc20 Z A M)]) [0] rfl
    have hDc := hD.sub (ws' := [(A 20, xc20 Z A M)]) [0] (by decide) rfl
    refine xk_i (wc := [(A 20, xc20 Z A M)]) (wr := [(A 21, .inl (Z 2, 4, .inl (M.2.2.1 21))), (A 22, .inl (Z 0, 4, .inl (M.2.2.1 22))), (A 23, .inl (Z 0, 4, .inl (M.2.2.1 23))), (A 24, .inl (Z 0, 4, .inl (M.2.2.1 24))), (A 25, .inl (Z 0, 4, .inl (M.2.2.1 25))), (A 26, .inl (Z 0, 12, .inl (M.2.2.1 26))), (A 27, .inl (Z 0, 12, .inl (M.2.2.1 27))), (A 28, .inl (Z 0, 12, .inl (M.2.2.1 28))), (A 29, .inl (Z 1, 16, .inr (.inl (M.2.2.2 29)))), (A 30, .inl (Z 1, 16, .inr (.inl (M.2.2.2 30)))), (A 31, .inl (Z 1, 16, .inr (.inl (M.2.2.2 31))))]) (va_runV (As := [.int j2, .int 0]) (rest := []) ⟨hx, hb, hml, hown, hts⟩ (c_R_throwing l dC dI Z A _ M j2 0) (cwV 2 hts (xw_V _ tw_934 tw_936 tp_12 tw_12 tw_937) rfl rfl rfl (by decide +kernel) ⟨Nat.le_of_ble_eq_true rfl, Nat.le_of_ble_eq_true rfl⟩) ⟨xB_blind, va_recv (q0 := 0) (ci := 10) hK hP rfl rfl, fun U hU hW => ⟨rfl, xB_at hPc hK hDc hq U hU hW⟩⟩ rfl rfl hl.1 rfl (lv_room (Nat.le_of_ble_eq_true rfl)) d_R_tick_19 ⟨Nat.le_of_ble_eq_true rfl, Nat.le_of_ble_eq_true rfl⟩) hP hD hS hA [0] [1, 2, 3, 4, 5, 6, 7, 8, 9, 10, 11] rfl rfl (by decide) (by decide) (fun r5 u4 H locs hu4 hP hD hS => ?_)
    obtain ⟨p6, rfl, rfl⟩ : ∃ z : Int32 × Int32, r5 = z.1 ∧ u4 = z.2 := ⟨(r5, u4), rfl, rfl⟩
    replace hu4 : p6 = (F_R_throwing M j2 0) := hu4
    have hP : va_P (dC, dI) xcl [(A 21, .inl (Z 2, 4, .inl (M.2.2.1 21))), (A 22, .inl (Z 0, 4, .inl (M.2.2.1 22))), (A 23, .inl (Z 0, 4, .inl (M.2.2.1 23))), (A 24, .inl (Z 0, 4, .inl (M.2.2.1 24))), (A 25, .inl (Z 0, 4, .inl (M.2.2.1 25))), (A 26, .inl (Z 0, 12, .inl (M.2.2.1 26))), (A 27, .inl (Z 0, 12, .inl (M.2.2.1 27))), (A 28, .inl (Z 0, 12, .inl (M.2.2.1 28))), (A 29, .inl (Z 1, 16, .inr (.inl (M.2.2.2 29)))), (A 30, .inl (Z 1, 16, .inr (.inl (M.2.2.2 30)))), (A 31, .inl (Z 1, 16, .inr (.inl (M.2.2.2 31)))), (A 20, .inr (10, [.int (p6.2), .ref (A 21), .ref (A 22), .ref (A 23), .ref (A 24), .ref (A 25), .int (M.1 101), .ref (A 26), .ref (A 27), .ref (A 28), .int (M.1 102), .long (M.2.1 100), .int (M.1 103), .int (M.1 104), .int (M.1 105), .int (M.1 106), .int (M.1 107), .int (M.1 108), .long (M.2.1 101), .long (M.2.1 102), .long (M.2.1 103), .int (M.1 109), .int (M.1 110), .int (M.1 111), .int (M.1 112), .int (M.1 113), .long (M.2.1 104), .long (M.2.1 105), .long (M.2.1 106), .int (M.1 114), .int (M.1 115), .int (M.1 116), .int (M.1 117), .int (M.1 118), .int (M.1 119), .int (M.1 120), .int (M.1 121), .int (M.1 122), .int (M.1 123), .int (M.1 124), .long (M.2.1 107), .int (M.1 125), .ref (A 29), .ref (A 30), .ref (A 31)]))] H := hP
    have hD : va_D AA [(A 21, .inl (Z 2, 4, .inl (M.2.2.1 21))), (A 22, .inl (Z 0, 4, .inl (M.2.2.1 22))), (A 23, .inl (Z 0, 4, .inl (M.2.2.1 23))), (A 24, .inl (Z 0, 4, .inl (M.2.2.1 24))), (A 25, .inl (Z 0, 4, .inl (M.2.2.1 25))), (A 26, .inl (Z 0, 12, .inl (M.2.2.1 26))), (A 27, .inl (Z 0, 12, .inl (M.2.2.1 27))), (A 28, .inl (Z 0, 12, .inl (M.2.2.1 28))), (A 29, .inl (Z 1, 16, .inr (.inl (M.2.2.2 29)))), (A 30, .inl (Z 1, 16, .inr (.inl (M.2.2.2 30)))), (A 31, .inl (Z 1, 16, .inr (.inl (M.2.2.2 31)))), (A 20, .inr (10, [.int (p6.2), .ref (A 21), .ref (A 22), .ref (A 23), .ref (A 24), .ref (A 25), .int (M.1 101), .ref (A 26), .ref (A 27), .ref (A 28), .int (M.1 102), .long (M.2.1 100), .int (M.1 103), .int (M.1 104), .int (M.1 105), .int (M.1 106), .int (M.1 107), .int (M.1 108), .long (M.2.1 101), .long (M.2.1 102), .long (M.2.1 103), .int (M.1 109), .int (M.1 110), .int (M.1 111), .int (M.1 112), .int (M.1 113), .long (M.2.1 104), .long (M.2.1 105), .long (M.2.1 106), .int (M.1 114), .int (M.1 115), .int (M.1 116), .int (M.1 117), .int (M.1 118), .int (M.1 119), .int (M.1 120), .int (M.1 121), .int (M.1 122), .int (M.1 123), .int (M.1 124), .long (M.2.1 107), .int (M.1 125), .ref (A 29), .ref (A 30), .ref (A 31)]))] := hD
    refine lv_if_eq (tgt := 27) hx hb d_R_tick_22 rfl (fun h7 => ?_) (fun h7 => ?_)
    · refine lv_iconst (v := 0) hx hb d_R_tick_27 (by decide) ?_
      refine lv_istore_n (lv' := [(2, .int 0), (0, .ref (A 20)), (1, .int a1)]) hx hb d_R_tick_28 rfl hl (by decide) rfl (fun ls hl => ?_)
      exact absurd (h7.symm.trans (tick_noR hin1 hz1 hj2 hu4).1) (by decide)
    · refine lv_iconst (v := 0) hx hb d_R_tick_25 (by decide) ?_
      obtain ⟨q1, q2⟩ := tick_noR hin1 hz1 hj2 hu4
      rw [q2] at hP hD
      exact W.iret hx hb hr (fun t ht hW => ⟨⟨0, (va_up M.1 100 1, M.2), rfl, rfl, xE_at (hP.sub [11, 0, 1, 2, 3, 4, 5, 6, 7, 8, 9, 10] rfl) hK (hD.sub [11, 0, 1, 2, 3, 4, 5, 6, 7, 8, 9, 10] (by decide) rfl) ht hW⟩, hS.F ht⟩) hS.2.2 d_R_tick_26
theorem xMet_post {l : Launch} {y : MethodName} {ws : List Cond} {rm : Room} {Pc : Array Value → State → Prop} {Qc Qd : Array Value → State → Outcome → State → Prop} {mc ms : Nat} {free : Addr → Prop} (h : Met l y ws rm Pc Qc mc ms free) (hq : ∀ a s o t, Qc a s o t → Qd a s o t) : Met l y ws rm Pc Qd mc ms free := by
  intro p e ha hc hk s m args below hf happ hP hK
  obtain ⟨n, o, h1, h2, h3, h4, h5⟩ := h p e ha hc hk s m args below hf happ hP hK
  exact ⟨n, o, h1, h2, h3, hq _ _ _ _ h4, h5⟩
theorem xin_w (M N : XM) (x a b : Int32) (p q : Int64) (hp : p = a.toInt64) (hq : q = b.toInt64) : F_R_in M x.toInt64 p q = F_U_within N x a b := by
  subst hp
  subst hq
  rw [F_R_in, F_U_within]
  have e1 : (lg_cmp x.toInt64 a.toInt64 < 0) ↔ x < a := by rw [lg_cmp_lt, Int64.lt_iff_toInt_lt, Int32.lt_iff_toInt_lt, Int32.toInt_toInt64, Int32.toInt_toInt64]
  have e2 : (0 < lg_cmp x.toInt64 b.toInt64) ↔ b < x := by rw [lg_cmp_gt, Int64.lt_iff_toInt_lt, Int32.lt_iff_toInt_lt, Int32.toInt_toInt64, Int32.toInt_toInt64]
  simp only [e1, e2]
theorem xin_nI {M : XM} {a1 : Int32} (h : ¬ F_R_in M a1.toInt64 1 2000 = 0) : a1.toNatClampNeg < 2 ^ 31 ∧ a1 = nI a1.toNatClampNeg := by
  rw [xin_w M M a1 1 2000 1 2000 (by decide) (by decide)] at h
  obtain ⟨n, hn, rfl⟩ := nI_of (x := a1) (by
    intro h0
    refine h ?_
    rw [F_U_within, if_pos]
    rw [Int32.lt_iff_toInt_lt] at h0 ⊢
    simp at h0 ⊢
    omega)
  rw [nI_clamp hn]
  exact ⟨hn, rfl⟩
def F_R_tickA (M : XM) (a1 : Int32) : Int32 × XM := if F_R_in M a1.toInt64 1 2000 = 0 then (0, (va_up M.1 100 1, M.2)) else ((xit_R_tick (va_up M.1 100 0, M.2) a1.toNatClampNeg).1 110, xit_R_tick (va_up M.1 100 0, M.2) a1.toNatClampNeg)
abbrev ap_R_tickA (_ u : XM) : XM := u
theorem c_R_tickA (l : Launch) (dC : Nat → ClassId) (dI : Nat → Nat → Nat) (Z : Nat → ClassId) (A : Nat → Nat) (sz : Nat) (M : XM) (a1 : Int32) (hI0 : ¬ F_R_in M a1.toInt64 1 2000 = 0 → ∀ j, j < a1.toNatClampNeg → xRI (xit_R_tick (va_up M.1 100 0, M.2) j)) : Met l y_R_tick (.code y_R_tick bc_R_tick 3 (some .int) :: xw) ({ frames := 3, cells := 0, slots := 0, locals := 72 }) (va_Pc [.ref (A 20), .int a1] (xB (dC, dI) xcl (xty Z) sz [(A 20, xc20 Z A M), (A 21, xc21 Z A M), (A 22, xc22 Z A M), (A 23, xc23 Z A M), (A 24, xc24 Z A M), (A 25, xc25 Z A M), (A 26, xc26 Z A M), (A 27, xc27 Z A M), (A 28, xc28 Z A M), (A 29, xc29 Z A M), (A 30, xc30 Z A M), (A 31, xc31 Z A M)])) (va_Qi (fun (r : Int32) (u : XM) => (r, u) = F_R_tickA M a1) (fun u => xE (dC, dI) xcl (xty Z) (va_A [(A 20, xc20 Z A M), (A 21, xc21 Z A M), (A 22, xc22 Z A M), (A 23, xc23 Z A M), (A 24, xc24 Z A M), (A 25, xc25 Z A M), (A 26, xc26 Z A M), (A 27, xc27 Z A M), (A 28, xc28 Z A M), (A 29, xc29 Z A M), (A 30, xc30 Z A M), (A 31, xc31 Z A M)] sz) [(A 20, xc20 Z A u), (A 21, xc21 Z A u), (A 22, xc22 Z A u), (A 23, xc23 Z A u), (A 24, xc24 Z A u), (A 25, xc25 Z A u), (A 26, xc26 Z A u), (A 27, xc27 Z A u), (A 28, xc28 Z A u), (A 29, xc29 Z A u), (A 30, xc30 Z A u), (A 31, xc31 Z A u)]) (va_A [(A 20, xc20 Z A M), (A 21, xc21 Z A M), (A 22, xc22 Z A M), (A 23, xc23 Z A M), (A 24, xc24 Z A M), (A 25, xc25 Z A M), (A 26, xc26 Z A M), (A 27, xc27 Z A M), (A 28, xc28 Z A M), (A 29, xc29 Z A M), (A 30, xc30 Z A M), (A 31, xc31 Z A M)] sz)) 0 0 (va_A [(A 20, xc20 Z A M), (A 21, xc21 Z A M), (A 22, xc22 Z A M), (A 23, xc23 Z A M), (A 24, xc24 Z A M), (A 25, xc25 Z A M), (A 26, xc26 Z A M), (A 27, xc27 Z A M), (A 28, xc28 Z A M), (A 29, xc29 Z A M), (A 30, xc30 Z A M), (A 31, xc31 Z A M)] sz) := by
  by_cases hin : F_R_in M a1.toInt64 1 2000 = 0
  · refine xMet_post (c_R_tick0 l dC dI Z A sz M a1 hin) ?_
    intro a s o t q
    obtain ⟨⟨r, u, e1, e2, e3⟩, e4⟩ := q
    exact ⟨⟨r, u, e1, by rw [F_R_tickA, if_pos hin]; exact e2, e3⟩, e4⟩
  · obtain ⟨hn, hn1⟩ := xin_nI hin
    refine xMet_post (c_R_tick l dC dI Z A sz M a1 a1.toNatClampNeg hn hn1 (by rw [← hn1]; exact hin) (hI0 hin)) ?_
    intro a s o t q
    obtain ⟨⟨r, u, e1, ⟨e2, e5⟩, e3⟩, e4⟩ := q
    exact ⟨⟨r, u, e1, by rw [F_R_tickA, if_neg hin, e2, e5], e3⟩, e4⟩
