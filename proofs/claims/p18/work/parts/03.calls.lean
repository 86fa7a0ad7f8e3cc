/-! my own: one memory for all fields, the uniform start and end of a contract, and calls in one row -/
/-- ints, longs, int arrays, long arrays: by the numbers of 04.names -/
abbrev XM : Type := (Nat → Int32) × (Nat → Int64) × (Nat → Nat → Int32) × (Nat → Nat → Int64)
abbrev xty (Z : Nat → ClassId) : List (ClassId × FieldType) := [(Z 0, .int), (Z 1, .long), (Z 2, .boolean)]
def xB (D : va_G) (cl : List vw_C) (tys : List (ClassId × FieldType)) (sz : Nat) (ws : va_W) (U : State) : Prop :=
  U.heap.size = sz ∧ va_P D cl ws U.heap ∧ va_K D cl tys U ∧ va_D (fun _ => True) ws ∧ xq U
theorem xB_blind {D : va_G} {cl : List vw_C} {tys : List (ClassId × FieldType)} {sz : Nat} {ws : va_W} {av : List Value} : FrameBlind (va_Pc av (xB D cl tys sz ws)) := fun a U g mk h => by
  obtain ⟨h0, h1, h2, h3, h4, h5⟩ := h
  exact ⟨h0, h1, h2, va_K.moved (u := U) (U := U.calling g mk a) (Vm.Alike.refl U.vm) h3, h4, xq_same (u := U) (U := U.calling g mk a) rfl h5⟩
theorem xB_at {D : va_G} {cl : List vw_C} {tys : List (ClassId × FieldType)} {ws : va_W} {A : Nat → Prop} {s : State} {H : Heap} (hP : va_P D cl ws H) (hK : va_K D cl tys s) (hD : va_D A ws) (hq : xq s) (U : State) (hU : U.heap = H) (hW : s.WarmedH U.vm) : xB D cl tys H.size ws U :=
  ⟨by rw [hU], by rw [hU]; exact hP, va_K.moved hW.alike hK, hD.weaken (fun _ _ _ _ => trivial), xq_warm hW hq⟩
/-- the world behind a method -/
def xE (D : va_G) (cl : List vw_C) (tys : List (ClassId × FieldType)) (A : Nat → Prop) (ws : va_W) (t : State) : Prop := va_P D cl ws t.heap ∧ va_K D cl tys t ∧ va_D A ws
theorem xE_at {D : va_G} {cl : List vw_C} {tys : List (ClassId × FieldType)} {ws : va_W} {A : Nat → Prop} {s t : State} {H : Heap} (hP : va_P D cl ws H) (hK : va_K D cl tys s) (hD : va_D A ws) (ht : t.heap = H) (hW : s.WarmedH t.vm) : xE D cl tys A ws t :=
  ⟨by rw [ht]; exact hP, va_K.moved hW.alike hK, hD⟩
theorem xw_V (c0 : Cond) {c1 : Cond} {own C : String} {idx : Nat} {y : MethodName} (h1 : Cond.methodLink own idx y ∈ xw) (h2 : Cond.instanceMethod y ∈ xw) (h3 : Cond.selects C y y ∈ xw) (h4 : Cond.initialized C ∈ xw) (h5 : c1 ∈ xw) : GoodIn (c0 :: xw) (wsV own idx C y (c1 :: xw)) :=
  xw_app c0 (List.forall_mem_cons.mpr ⟨h1, List.forall_mem_cons.mpr ⟨h2, List.forall_mem_cons.mpr ⟨h3, List.forall_mem_cons.mpr ⟨h4, fun _ h => absurd h List.not_mem_nil⟩⟩⟩⟩) (xw_call c0 h5)
theorem xw_S (c0 : Cond) {c1 : Cond} {own : String} {idx : Nat} {y : MethodName} (h1 : Cond.methodLink own idx y ∈ xw) (h2 : Cond.static y ∈ xw) (h4 : Cond.initialized y.cls ∈ xw) (h5 : c1 ∈ xw) : GoodIn (c0 :: xw) (va_wsS own idx y (c1 :: xw)) :=
  xw_app c0 (List.forall_mem_cons.mpr ⟨h1, List.forall_mem_cons.mpr ⟨h2, List.forall_mem_cons.mpr ⟨h4, fun _ h => absurd h List.not_mem_nil⟩⟩⟩) (xw_call c0 h5)
section XK
variable {p : Program} {l : Launch} {e : Env} {R : Room} {s : State} {m : MethodId} {args : Array Value} {below : List Frame} {meth : Method} {c : Code} {H : Heap} {locs : List Loc} {cells slots : Nat} {Q : State → Prop}
variable {pc : Nat} {ls : Array Slot} {rest st0 : List Value} {a : Array Value} {A0 : Nat → Prop} {H0 : Heap} {mc ms : Nat} {D : va_G} {cl : List vw_C} {tys : List (ClassId × FieldType)} {ws wc wr : va_W}
/-- a call of a method that only reads -/
theorem xk_p {r : Value} (hr : va_Run p l e R s m args below meth c H locs cells slots 0 0 (F0 m pc ls st0) rest (k2_QcV r a) (fun _ => False))
    (kk : W p l e R s m args below meth c H locs cells slots Q (F0 m (pc + 3) ls (r :: rest))) : W p l e R s m args below meth c H locs cells slots Q (F0 m pc ls st0) :=
  W.callV hr.run kk
/-- a call of a method that writes its world: no answer -/
theorem xk_v {S : Type} {post : S → Prop} {w1 : S → va_W} (hr : va_Run p l e R s m args below meth c H locs cells slots mc ms (F0 m pc ls st0) rest (va_Qv post (fun u => xE D cl tys (va_A wc H.size) (w1 u)) (va_A wc H.size) a) (va_A wc H.size))
    (hP : va_P D cl ws H) (hD : va_D A0 ws) (hS : va_S A0 H0 H locs) (hA : ∀ q, H0.size ≤ q → A0 q) (isC isR : List Nat) (hC : isC.map (fun i => ws[i]?) = wc.map some) (hR : isR.map (fun i => ws[i]?) = wr.map some) (hn : va_nd isR = true) (hdis : ∀ i ∈ isR, i ∉ isC)
    (kk : ∀ (u : S) (H1 : Heap) (locs1 : List Loc), post u → va_P D cl (wr ++ w1 u) H1 → va_D A0 (wr ++ w1 u) → va_S A0 H0 H1 locs1 → W p l e R s m args below meth c H1 locs1 (cells + mc) (slots + ms) Q (F0 m (pc + 3) ls rest)) : W p l e R s m args below meth c H locs cells slots Q (F0 m pc ls st0) := by
  have hFc := va_free (wc := wc) hD hS hA isC hC
  refine va_callv hr hS (fun q _ h => hFc q h) hFc (fun u t H1 locs1 ht hvm hu hB hz1 hk1 hS1 => ?_)
  obtain ⟨hP1, hK1, hD1⟩ := hB
  rw [ht] at hP1
  obtain ⟨hP2, hD2⟩ := va_join hP hD isC isR hC hR hn hdis hk1 hFc hP1 hD1
  exact kk u H1 locs1 hu hP2 hD2 hS1
theorem xk_i {S : Type} {post : Int32 → S → Prop} {w1 : S → va_W} (hr : va_Run p l e R s m args below meth c H locs cells slots mc ms (F0 m pc ls st0) rest (va_Qi post (fun u => xE D cl tys (va_A wc H.size) (w1 u)) (va_A wc H.size) a) (va_A wc H.size))
    (hP : va_P D cl ws H) (hD : va_D A0 ws) (hS : va_S A0 H0 H locs) (hA : ∀ q, H0.size ≤ q → A0 q) (isC isR : List Nat) (hC : isC.map (fun i => ws[i]?) = wc.map some) (hR : isR.map (fun i => ws[i]?) = wr.map some) (hn : va_nd isR = true) (hdis : ∀ i ∈ isR, i ∉ isC)
    (kk : ∀ (r : Int32) (u : S) (H1 : Heap) (locs1 : List Loc), post r u → va_P D cl (wr ++ w1 u) H1 → va_D A0 (wr ++ w1 u) → va_S A0 H0 H1 locs1 → W p l e R s m args below meth c H1 locs1 (cells + mc) (slots + ms) Q (F0 m (pc + 3) ls (.int r :: rest))) : W p l e R s m args below meth c H locs cells slots Q (F0 m pc ls st0) := by
  have hFc := va_free (wc := wc) hD hS hA isC hC
  refine va_calli hr hS (fun q _ h => hFc q h) hFc (fun r u t H1 locs1 ht hvm hu hB hz1 hk1 hS1 => ?_)
  obtain ⟨hP1, hK1, hD1⟩ := hB
  rw [ht] at hP1
  obtain ⟨hP2, hD2⟩ := va_join hP hD isC isR hC hR hn hdis hk1 hFc hP1 hD1
  exact kk r u H1 locs1 hu hP2 hD2 hS1
theorem xk_l {S : Type} {post : Int64 → S → Prop} {w1 : S → va_W} (hr : va_Run p l e R s m args below meth c H locs cells slots mc ms (F0 m pc ls st0) rest (va_Ql post (fun u => xE D cl tys (va_A wc H.size) (w1 u)) (va_A wc H.size) a) (va_A wc H.size))
    (hP : va_P D cl ws H) (hD : va_D A0 ws) (hS : va_S A0 H0 H locs) (hA : ∀ q, H0.size ≤ q → A0 q) (isC isR : List Nat) (hC : isC.map (fun i => ws[i]?) = wc.map some) (hR : isR.map (fun i => ws[i]?) = wr.map some) (hn : va_nd isR = true) (hdis : ∀ i ∈ isR, i ∉ isC)
    (kk : ∀ (r : Int64) (u : S) (H1 : Heap) (locs1 : List Loc), post r u → va_P D cl (wr ++ w1 u) H1 → va_D A0 (wr ++ w1 u) → va_S A0 H0 H1 locs1 → W p l e R s m args below meth c H1 locs1 (cells + mc) (slots + ms) Q (F0 m (pc + 3) ls (.long r :: rest))) : W p l e R s m args below meth c H locs cells slots Q (F0 m pc ls st0) := by
  have hFc := va_free (wc := wc) hD hS hA isC hC
  refine va_calll hr hS (fun q _ h => hFc q h) hFc (fun r u t H1 locs1 ht hvm hu hB hz1 hk1 hS1 => ?_)
  obtain ⟨hP1, hK1, hD1⟩ := hB
  rw [ht] at hP1
  obtain ⟨hP2, hD2⟩ := va_join hP hD isC isR hC hR hn hdis hk1 hFc hP1 hD1
  exact kk r u H1 locs1 hu hP2 hD2 hS1
end XK
theorem xz_nar {z : Int32} (h : z = 0 ∨ z = 1) : narrow .boolean (.int z) = .int z := by rcases h with rfl | rfl <;> rfl
theorem xz_fit {z : Int32} (h : z = 0 ∨ z = 1) : fits .boolean (.int z) = true := by rcases h with rfl | rfl <;> rfl
section XJ
variable {p : Program} {l : Launch} {e : Env} {R : Room} {s : State} {m : MethodId} {args : Array Value} {below : List Frame} {meth : Method} {c : Code} {H : Heap} {locs : List Loc} {cells slots : Nat} {Q : State → Prop} {g0 : JFrame}
/-- two roads that meet: what differs at the meeting is one value j -/
theorem xj_p {T : Type} (nL J : Nat) (lvf : T → List (Nat × Value)) (stf : T → List Value) (P : T → Prop)
    (k1 : (∀ (ls : Array Slot) (j : T), lv_has ls nL (lvf j) → P j → W p l e R s m args below meth c H locs cells slots Q (F0 m J ls (stf j))) → W p l e R s m args below meth c H locs cells slots Q g0)
    (k2 : ∀ (ls : Array Slot) (j : T), lv_has ls nL (lvf j) → P j → W p l e R s m args below meth c H locs cells slots Q (F0 m J ls (stf j))) : W p l e R s m args below meth c H locs cells slots Q g0 := k1 k2
theorem xj_h {D : va_G} {cl : List vw_C} {AA : Nat → Prop} {H0 : Heap} {T : Type} (nL J : Nat) (lvf : T → List (Nat × Value)) (stf : T → List Value) (wsf : T → va_W) (P : T → Prop)
    (k1 : (∀ (H : Heap) (locs : List Loc) (ls : Array Slot) (j : T), va_P D cl (wsf j) H → va_D AA (wsf j) → va_S AA H0 H locs → lv_has ls nL (lvf j) → P j → W p l e R s m args below meth c H locs cells slots Q (F0 m J ls (stf j))) → W p l e R s m args below meth c H locs cells slots Q g0)
    (k2 : ∀ (H : Heap) (locs : List Loc) (ls : Array Slot) (j : T), va_P D cl (wsf j) H → va_D AA (wsf j) → va_S AA H0 H locs → lv_has ls nL (lvf j) → P j → W p l e R s m args below meth c H locs cells slots Q (F0 m J ls (stf j))) : W p l e R s m args below meth c H locs cells slots Q g0 := k1 k2
end XJ
def xBs (D : va_G) (cl : List vw_C) (tys : List (ClassId × FieldType)) (sz : Nat) (ws : va_W) (U : State) : Prop := xB D cl tys sz ws U ∧ xs U
theorem xs_same {u U : State} (hv : U.vm = u.vm) (hh : U.heap = u.heap) (h : xs u) : xs U := xs_kept (s := u) (by rw [hv]; exact State.WarmedH.refl u) (fun q _ => by rw [hh]) h
theorem xBs_blind {D : va_G} {cl : List vw_C} {tys : List (ClassId × FieldType)} {sz : Nat} {ws : va_W} {av : List Value} : FrameBlind (va_Pc av (xBs D cl tys sz ws)) := fun a U g mk h =>
  ⟨h.1, (xB_blind (av := av) a U g mk ⟨h.1, h.2.1⟩).2, xs_same (u := U) (U := U.calling g mk a) rfl rfl h.2.2⟩
theorem xBs_at {D : va_G} {cl : List vw_C} {tys : List (ClassId × FieldType)} {ws : va_W} {A : Nat → Prop} {s : State} (hP : va_P D cl ws s.heap) (hK : va_K D cl tys s) (hD : va_D A ws) (hq : xq s) (hs : xs s) (U : State) (hU : U.heap = s.heap) (hW : s.WarmedH U.vm) : xBs D cl tys s.heap.size ws U :=
  ⟨xB_at hP hK hD hq U hU hW, xs_kept hW (fun q _ => by rw [hU]) hs⟩
theorem xc_args : ∀ w ∈ xn_cast, ∀ (A : Array Value) (U : State), w.before A U = w.before #[] U := by
  intro w hw A U
  simp only [xn_cast, List.mem_cons, List.not_mem_nil, or_false] at hw
  rcases hw with rfl | rfl | rfl | rfl | rfl | rfl | rfl | rfl | rfl | rfl | rfl <;> rfl
theorem xs_args : ∀ w ∈ xn_stat, ∀ (A : Array Value) (U : State), w.before A U = w.before #[] U := by
  intro w hw A U
  simp only [xn_stat, List.mem_cons, List.not_mem_nil, or_false] at hw
  rcases hw with rfl | rfl | rfl | rfl <;> rfl
theorem xo_all {A : Array Value} {s : State} {L : List Cond} (htt : ∀ w ∈ xw, w.before A s = true) (hq : xq s) (hs : xs s) (h : ∀ w ∈ L, w ∈ xw ∨ w ∈ xn_cast ∨ w ∈ xn_stat) : ∀ w ∈ L, w.before A s = true := fun w hw => by
  rcases h w hw with h1 | h1 | h1
  · exact htt w h1
  · rw [xc_args w h1]; exact hq.2.2 w h1
  · rw [xs_args w h1]; exact hs w h1
section XL
variable {p : Program} {l : Launch} {e : Env} {R : Room} {s : State} {m : MethodId} {args : Array Value} {below : List Frame} {meth : Method} {c : Code} {H : Heap} {locs : List Loc} {cells slots : Nat} {Q : State → Prop} {g0 : JFrame}
/-- a counted loop: n rounds, I the state before round j -/
theorem xlp_h {D : va_G} {cl : List vw_C} {AA : Nat → Prop} {H0 : Heap} {T : Type} (nL L : Nat) (lvf : Nat → T → List (Nat × Value)) (wsf : T → va_W) (I : Nat → T → Prop) (n : Nat) (hn : ∀ j N, I j N → j ≤ n)
    (k1 : (∀ (j : Nat) (N : T) (H : Heap) (locs : List Loc) (ls : Array Slot), I j N → va_P D cl (wsf N) H → va_D AA (wsf N) → va_S AA H0 H locs → lv_has ls nL (lvf j N) → W p l e R s m args below meth c H locs cells slots Q (F0 m L ls [])) → W p l e R s m args below meth c H locs cells slots Q g0)
    (k2 : ∀ (j : Nat) (N : T) (H : Heap) (locs : List Loc) (ls : Array Slot), j < n → I j N → va_P D cl (wsf N) H → va_D AA (wsf N) → va_S AA H0 H locs → lv_has ls nL (lvf j N) → (∀ (N : T) (H : Heap) (locs : List Loc) (ls : Array Slot), I (j + 1) N → va_P D cl (wsf N) H → va_D AA (wsf N) → va_S AA H0 H locs → lv_has ls nL (lvf (j + 1) N) → W p l e R s m args below meth c H locs cells slots Q (F0 m L ls [])) → W p l e R s m args below meth c H locs cells slots Q (F0 m L ls []))
    (k3 : ∀ (N : T) (H : Heap) (locs : List Loc) (ls : Array Slot), I n N → va_P D cl (wsf N) H → va_D AA (wsf N) → va_S AA H0 H locs → lv_has ls nL (lvf n N) → W p l e R s m args below meth c H locs cells slots Q (F0 m L ls [])) : W p l e R s m args below meth c H locs cells slots Q g0 := by
  have key : ∀ (d j : Nat), j + d = n → ∀ (N : T) (H : Heap) (locs : List Loc) (ls : Array Slot), I j N → va_P D cl (wsf N) H → va_D AA (wsf N) → va_S AA H0 H locs → lv_has ls nL (lvf j N) → W p l e R s m args below meth c H locs cells slots Q (F0 m L ls []) := by
    intro d
    induction d with
    | zero => intro j hj N H locs ls h1 h2 h3 h4 h5; have : j = n := by omega
              subst this; exact k3 N H locs ls h1 h2 h3 h4 h5
    | succ d ih => intro j hj N H locs ls h1 h2 h3 h4 h5; exact k2 j N H locs ls (by omega) h1 h2 h3 h4 h5 (ih (j + 1) (by omega))
  exact k1 (fun j N H locs ls h1 => key (n - j) j (by have := hn j N h1; omega) N H locs ls h1)
end XL
