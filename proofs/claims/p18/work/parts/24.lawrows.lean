section XSW
variable {p : Program} {l : Launch} {e : Env} {R : Room} {s : State} {m : MethodId} {args : Array Value} {below : List Frame} {meth : Method} {c : Code} {H : Heap} {locs : List Loc} {cells slots : Nat} {Q : State → Prop}
variable {y : MethodName} {bytes cc : ByteArray} {maxL nL mc ms n index : Nat} {ret : Option FieldType} {ws : List Cond} {rm : Room} {Pc : Array Value → State → Prop} {Qc : Array Value → State → Outcome → State → Prop} {free : Addr → Prop} {Ts : List Cond} {own : String} {As rest : List Value} {g : JFrame} {hh : List (Nat × Nat × Nat × Nat)}
/-- invokestatic of a method with an exception table -/
theorem xt_runSW (S : CallFix p m c cc nL s args Ts own) (hM : Met l y ws rm Pc Qc mc ms free) (hcw : Cond.codeWith y bytes maxL ret hh ∈ ws) (hrc : rm.cells = mc) (hrs : rm.slots = ms) (hR : rm.frames + 1 ≤ R.frames ∧ 8 + (maxL + 11) + rm.locals ≤ R.locals) (hG : GoodIn Ts ws)
    (hlink : (Cond.methodLink own index y).before args s = true) (hstat : (Cond.static y).before args s = true) (hini : (Cond.initialized y.cls).before args s = true) (hy : y.cls ≠ "java/lang/invoke/MethodHandle" ∧ y.cls ≠ "java/lang/invoke/VarHandle") (hlen : (parseMethodDescriptor y.desc).map (fun d => d.parameters.length) = some n) (hp : PreS s H Pc As)
    (hg : g.method = m) (hn : As.length = n) (hsize : g.locals.size = nL) (hstack : g.stack = As.reverse ++ rest) (hW : 2 * g.monitorRoom + (rest.map fun v => v.category).sum ≤ 8) (hdg : decode cc g.pc = .ok (.invokestatic index, 3)) (hf : cells + mc ≤ R.cells ∧ slots + ms ≤ R.slots) :
    va_Run p l e R s m args below meth c H locs cells slots mc ms g rest (Qc As.toArray) (free) := by
  have hws := pay_in S.2.2.2.2 hG
  have hcode : (Cond.codeWith y bytes maxL ret hh).before args s = true := S.2.2.2.2 _ (hG _ hcw).1
  have hK : Back l R p e below s args y 3 8 (PreOf R mc ms Pc) (PostOf Qc mc ms free) := va_backW (hh := hh) (bytes := bytes) (maxL := maxL) (ret := ret) hM hp.1 hrc hrs hR.1 hR.2 hws hcw (fun a' U hW => word_at hW (Or.inl (by first | rfl | simp [Cond.onTables, Cond.keeps, Cond.steady])) hini)
  obtain ⟨hx, hb, hml, ho, -⟩ := S
  intro T hT X
  obtain ⟨mk, methM, cM, hnamed, hmethM, -, -, -, -, -, -, hsigM⟩ := Cond.codeWith_spec (args := args) hcode
  have hstatic : methM.isStatic = true := Cond.static_spec hnamed hmethM hstat
  obtain ⟨kP, hkP, -⟩ := className_of_methodNamed hnamed
  have hinitP : kP.init = .initialized := Cond.initialized_spec (findClass_of_methodNamed hnamed) hkP hini
  have hnn : As.length = methM.sig.parameters.length := by
    rw [hsigM] at hlen
    exact hn.trans (Option.some.inj hlen).symm
  obtain ⟨vm₁, X₁, hstep₁⟩ := X.invokestatic hx ho hlink hnamed hmethM hstatic hkP hinitP hy (g := g) hg (argsL := As) (rest := rest) hnn hstack (by rw [hb]; exact hdg)
  obtain ⟨v, ⟨U', l2, c2, s2⟩, X', ⟨g', mk', t, L, e1, e2, hq, h1, hL, h2, h3⟩, hsteps⟩ := hK m meth c ⟨T.setVm vm₁, locs, cells, slots⟩ { g with stack := rest } (.invokestatic index) mk As.toArray X₁ hg (hsize.trans hml.symm) (by rw [hb]; exact hdg) hW (X₁.named hnamed) ⟨hf.1, hf.2, hp.2 (T.setVm vm₁) hT X₁.warmed⟩
  dsimp only [Pt.U, Pt.locs, Pt.cells, Pt.slots] at X' e1 e2 h1 h2 h3 hsteps
  subst h1; subst h2; subst h3
  exact ⟨v, (T.setVm vm₁).calling g' mk' As.toArray, t, U', L, hT, X', hL, e1, e2, hq, fun target h => hstep₁ _ fun acts => by rw [doInvoke_state]; exact hsteps.trans h⟩
end XSW
section XLA
variable {p : Program} {l : Launch} {e : Env} {R : Room} {s : State} {m : MethodId} {args : Array Value} {below : List Frame} {meth : Method} {c : Code} {H : Heap} {locs : List Loc} {cells slots : Nat} {Q : State → Prop} {cc : ByteArray} {pc : Nat} {ls : Array Slot} {rest : List Value} {A : Nat → Prop} {H0 : Heap}
theorem xl_nI {i k L : Nat} (h : i + k < L) (hL : L < 2 ^ 31) : vp_in (nI i + nI k) L ∧ (nI i + nI k).toNatClampNeg = i + k := by
  rw [nI_add]
  exact ⟨vp_in_nI h hL, nI_clamp (by omega)⟩
/-- script[i + k] -/
theorem xl_arg (hexec : p.tables.exec = Jvm.exec) (hb : c.code = cc) {b L i : Nat} {xs : Nat → Int32} (hX : va_X b L xs s H0) (hbl : b < H0.size) (hbA : ¬ A b) (hS : va_S A H0 H locs) (hL : L < 2 ^ 31) {nL p0 p4 : Nat} {lv : List (Nat × Value)} (hl : lv_has ls nL lv) (h0 : lv[p0]? = some (0, .ref b)) (h4 : lv[p4]? = some (4, .int (nI i))) (k : Nat) (hk : i + k < L) {cI : Int} (hc : Int32.ofInt cI = nI k)
    (d0 : decode cc pc = .ok (.aload_n 0, 1)) (d1 : decode cc (pc + 1) = .ok (.iload 4, 2)) (d3 : decode cc (pc + 3) = .ok (.iconst cI, 1)) (d4 : decode cc (pc + 4) = .ok (.iadd, 1)) (d5 : decode cc (pc + 5) = .ok (.iaload, 1))
    (kk : W p l e R s m args below meth c H locs cells slots Q (F0 m (pc + 6) ls (.int (xs (i + k)) :: rest))) : W p l e R s m args below meth c H locs cells slots Q (F0 m pc ls rest) := by
  refine lv_aload_n hexec hb d0 rfl (lv_at hl p0 h0) ?_
  refine lv_iload hexec hb d1 (lv_at hl p4 h4) ?_
  refine lv_iconst (v := nI k) hexec hb d3 hc ?_
  refine lv_iadd hexec hb d4 ?_
  refine va_sld hexec hb hX hbl hbA hS (xl_nI hk hL).1 d5 ?_
  rw [(xl_nI hk hL).2]
  exact kk
end XLA
/-- the class's memory and the reference's in one -/
def xmix (C R : XM) : XM := (fun k => if k < 100 then C.1 k else R.1 k, fun k => if k < 100 then C.2.1 k else R.2.1 k, fun a => if a < 20 then C.2.2.1 a else R.2.2.1 a, fun a => if a < 20 then C.2.2.2 a else if a = 32 then C.2.2.2 a else R.2.2.2 a)
theorem xBs_in {D : va_G} {cl : List vw_C} {tys : List (ClassId × FieldType)} {ws : va_W} {A A0 : Nat → Prop} {s : State} {H : Heap} {locs : List Loc} (hP : va_P D cl ws H) (hK : va_K D cl tys s) (hD : va_D A ws) (hq : xq s) (hs : xs s) (hS : va_S A0 s.heap H locs) (hA0 : ∀ q : Nat, q < s.heap.size → ¬ A0 q) (U : State) (hU : U.heap = H) (hW : s.WarmedH U.vm) : xBs D cl tys H.size ws U :=
  ⟨xB_at hP hK hD hq U hU hW, xs_kept hW (fun q h => by rw [hU]; exact hS.2.1 q h (hA0 q h)) hs⟩
def xnz (x : Int32) : Int32 := if x = 0 then 0 else 1
theorem xnz01 (x : Int32) : xnz x = 0 ∨ xnz x = 1 := by
  unfold xnz
  split
  · exact Or.inl rfl
  · exact Or.inr rfl
section XLB
variable {p : Program} {l : Launch} {e : Env} {R : Room} {s : State} {m : MethodId} {args : Array Value} {below : List Frame} {meth : Method} {c : Code} {H : Heap} {locs : List Loc} {cells slots : Nat} {Q : State → Prop} {cc : ByteArray} {pc : Nat} {ls : Array Slot} {rest : List Value}
/-- x != 0 as a boolean -/
theorem xl_bool (hexec : p.tables.exec = Jvm.exec) (hb : c.code = cc) {x : Int32} (d0 : decode cc pc = .ok (.ifCond .eq 7, 3)) (d3 : decode cc (pc + 3) = .ok (.iconst 1, 1)) (d4 : decode cc (pc + 4) = .ok (.goto 4, 3)) (d7 : decode cc (pc + 7) = .ok (.iconst 0, 1))
    (kk : W p l e R s m args below meth c H locs cells slots Q (F0 m (pc + 8) ls (.int (xnz x) :: rest))) : W p l e R s m args below meth c H locs cells slots Q (F0 m pc ls (.int x :: rest)) := by
  refine lv_if_eq (tgt := pc + 7) hexec hb d0 (by omega) (fun h => ?_) (fun h => ?_)
  · rw [xnz, if_pos h] at kk
    exact lv_iconst (v := 0) hexec hb d7 (by decide) kk
  · rw [xnz, if_neg h] at kk
    refine lv_iconst (v := 1) hexec hb d3 (by decide) ?_
    exact lv_goto (tgt := pc + 8) hexec hb d4 (by omega) kk
end XLB

