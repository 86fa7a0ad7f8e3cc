/-! Rows of my own: a method that throws a new exception (a launch without stack traces), and a caller whose table catches it. -/
def xt_Q (X : String) (st : State) (o : Outcome) (t : State) : Prop :=
  ∃ (a : Nat) (ce : Cell), o = .threw a ∧ t.heap[a]? = some ce ∧ st.vm.findClass X = some ce.cls ∧ ce.vm.isStatics = false
def xt_E (X : String) (mc ms : Nat) (st : State) (o : Outcome) (t : State) : Prop :=
  xt_Q X st o t ∧ st.WarmedH t.vm ∧ st.sameButNew ({ t with vm := st.vm } : State) [] mc ms
/-- the contract of a method that throws a new X, and changes nothing that was there -/
def MetT (l : Launch) (y : MethodName) (ws : List Cond) (rm : Room) (Pc : Array Value → State → Prop) (X : String) (mc ms : Nat) : Prop :=
  MetFree l y (headSpec ws rm) Pc (fun _ _ _ _ _ => True) (fun _ st o t => xt_E X mc ms st o t)
def xt_Z (below : List Frame) (X : String) (s : State) (mc ms : Nat) : State → Prop := fun t =>
  ∃ o, t.status = .running ∧ Ended t below o ∧ xt_E X mc ms s o t
theorem xt_old {s t : State} {k n : Nat} (h : s.sameButNew ({ t with vm := s.vm } : State) [] k n) :
    s.heap.size ≤ t.heap.size ∧ ∀ q : Nat, q < s.heap.size → t.heap[q]? = s.heap[q]? := by
  refine ⟨h.2.1, fun q hq => ?_⟩
  have hc : s.heap[q]? = some s.heap[q] := Array.getElem?_eq_getElem hq
  obtain ⟨c', h1, h2, h3, h4⟩ := h.2.2.2.2.2 q _ hc
  have h1 : t.heap[q]? = some c' := h1
  have e : c'.slots = (s.heap[q]).slots := Array.ext_getElem? (fun i => h4 i (by simp))
  rw [h1, hc, h2, e]
theorem MetT.ofW {l : Launch} {y : MethodName} {ws ws' : List Cond} {rm : Room} {Pc : Array Value → State → Prop} {X : String} {mc ms : Nat} {cc : ByteArray} {maxL : Nat} {ret : Option FieldType}
    (hy : plainName y.cls = true) (hw : ws = Cond.code y cc maxL ret :: ws')
    (body : ∀ p e s m args below meth c s₁, BodyLoose p l y (headSpec ws rm) cc maxL ret e s m args below meth c s₁ → c.maxLocals = maxL → Pc args s →
      W p l e (headSpec ws rm).room s m args below meth c s.heap [] 0 0 (xt_Z below X s mc ms) (entryFrame m args maxL)) : MetT l y ws rm Pc X mc ms := by
  refine MetFree.of_bodyS (code := cc) (maxLocals := maxL) (ret := ret) hy ?_ ?_
  · intro args s m h hn
    obtain ⟨meth, c, h1, h2, h3, h4, h5, h6, -, -⟩ := Cond.code_spec hn (atoms_spec (ws := ws) h _ (by rw [hw]; exact List.mem_cons_self))
    exact ⟨meth, c, h1, h2, h3, h4, h5, h6⟩
  · intro p e s m args below meth c s₁ B hml hP _
    have hh0 : s₁.heap = s.heap := by rw [B.state]; rfl
    obtain ⟨t, a1, o, b1, b2, b3⟩ := body p e s m args below meth c s₁ B hml hP s₁ hh0 (Stand.of_body B)
    exact ⟨t, o, a1, b1, b2, b3⟩
section XT
variable {p : Program} {l : Launch} {e : Env} {R : Room} {s : State} {m : MethodId} {args : Array Value} {below : List Frame} {meth : Method} {c : Code} {H : Heap} {locs : List Loc} {cells slots : Nat} {Q : State → Prop}
/-- new X(text), thrown, in a method without handlers, nothing old written so far -/
theorem xt_throw {cc : ByteArray} (hexec : p.tables.exec = Jvm.exec) (hb : c.code = cc) (htl : l.stackTraces = false) {own X tx : String} {names : List String} {i0 i1 i2 q : Nat}
    (hown : s.vm.findClass own = some m.cls) (hcl : (Cond.classLink own i0 X).before args s = true) (hins : (Cond.instantiable X 6).before args s = true) (hini : (Cond.initialized X).before args s = true)
    (hZ : vk_R own i1 tx q s) (hw : ∀ a ∈ Bundle.ownAtoms own i2 X names, a.before args s = true) (hfit : Bundle.fit X = true) (hnames : ∀ n ∈ names, Bundle.fit n = true)
    {pc : Nat} {ls : Array Slot} (d0 : decode cc pc = .ok (.new i0, 3)) (d3 : decode cc (pc + 3) = .ok (.dup, 1)) (d4 : decode cc (pc + 4) = .ok (.ldc i1, 2)) (d6 : decode cc (pc + 6) = .ok (.invokespecial i2, 3)) (d9 : decode cc (pc + 9) = .ok (.athrow, 1))
    (hout : c.exceptionTable.isEmpty = true) (hsz : ls.size = c.maxLocals) (hlocks : meth.locks = false) (hRf : names.length + 3 < R.frames) (hRl : 1 + (13 * (names.length + 1) + 42) ≤ R.locals) (hRc : 1 ≤ R.cells) (hRs : 6 ≤ R.slots) :
    W p l e R s m args below meth c s.heap [] 0 0 (xt_Z below X s 1 6) (F0 m pc ls []) := by
  refine W.newc hexec hb hown hcl hins hini rfl d0 (by simpa using hRc) (by simpa using hRs) fun cX kX h1 h2 h3 h4 => ?_
  refine lv_dup hexec hb d3 rfl ?_
  refine va_ldcS hexec hb hown hZ d4 ?_
  intro T hT V
  have htr : e.platform.stackTraces = false := by rw [V.admits.platform]; exact htl
  have hno : ∀ x ∈ c.exceptionTable.toList, covers x (pc + 6 + 3) = false := by
    have h0 : c.exceptionTable.size = 0 := by simpa [Array.isEmpty] using hout
    have h1 : c.exceptionTable.toList = [] := List.eq_nil_of_length_eq_zero (by simpa using h0)
    intro x hx
    rw [h1] at hx
    cases hx
  obtain ⟨U, u1, u2, u3, u4, u5, ce, u6, u7⟩ := V.ctorThrowS hexec htr hown hfit hnames hw (by intro x hx; cases hx) (a := s.heap.size) (cX := cX) (kX := kX) h1 h2
    (by rw [hT]; simp [freshCell]) (Nat.le_refl _) (msg := .ref q) rfl
    (g := F0 m (pc + 6) ls [.ref q, .ref s.heap.size, .ref s.heap.size]) rfl hsz rfl rfl (rest := []) rfl (by rw [hb]; exact d6) (by rw [hb]; exact d9) hno hRf (by simpa [Value.category] using hRl) hlocks
  exact ⟨U, u1, .threw s.heap.size, u2, u3, ⟨s.heap.size, ce, rfl, u6, u7.cls, by rw [u7.vm]; rfl⟩, u4, by simpa using u5⟩
end XT
/-- a method's table, at a pc, for an object of a class: which handler takes it -/
def xt_row (pl : Platform) (s₀ : State) (d : ClassId) (pc : Nat) (th : ClassId) : List ExceptionTableEntry → Nat → Prop
  | [], _ => False
  | x :: t, h => (covers x pc = false ∧ xt_row pl s₀ d pc th t h) ∨ (covers x pc = true ∧ x.catchType ≠ 0 ∧ ∃ cT : ClassId, s₀.vm.ClassLinks pl d x.catchType cT ∧
      ((s₀.vm.assignable th cT = true ∧ h = x.handlerPc) ∨ (s₀.vm.assignable th cT = false ∧ xt_row pl s₀ d pc th t h)))
theorem xt_step {Q : Handler → Pre} {E : CtlPost} {e : Env} {d : Bool} {acts : List Action} {s : State} {f : JFrame} {a : Addr} {x : ExceptionTableEntry} {t : List ExceptionTableEntry} {cT : ClassId} {cell : Cell} (hx : covers x f.pc = true) (h0 : x.catchType ≠ 0)
    (hl : s.vm.ClassLinks e.platform f.method.cls x.catchType cT) (hcell : s.heap[a]? = some cell) (hobj : ∀ k, cell.vm ≠ .statics k)
    (hk : ∃ k, s.vm.classes[cell.cls]? = some k) (hc : ∃ k, s.vm.classes[cT]? = some k) (y : Bool) (hy : s.vm.assignable cell.cls cT = y) :
    wp (findHandler.go f a (x :: t)) Q E e d acts s ↔ (if y = true then Q (.found x.handlerPc) d acts (s.setVm (s.vm.noted f.method.cls x.catchType (.cls cT))) else wp (findHandler.go f a t) Q E e d acts (s.setVm (s.vm.noted f.method.cls x.catchType (.cls cT)))) := by
  simp only [covers] at hx
  obtain ⟨w1, w2⟩ := (resolveClass_links e.toSetting hl).op (op := VmOp.resolveClass f.method.cls x.catchType) rfl
  have hal : s.vm.Alike (s.vm.noted f.method.cls x.catchType (.cls cT)) := (Vm.Alike.refl s.vm).noted _ _ _
  obtain ⟨k1, hk1⟩ := hk
  obtain ⟨k2, hk2⟩ := hc
  obtain ⟨k3, hk3, -⟩ := hal.2.2 _ _ hk1
  obtain ⟨k4, hk4, -⟩ := hal.2.2 _ _ hk2
  have hy' : (s.vm.noted f.method.cls x.catchType (.cls cT)).assignable cell.cls cT = y := by rw [hal.assignable]; exact hy
  cases y <;> simp [findHandler.go, hx, h0, w1, w2, hcell, hobj, hk3, hk4, hy', VmOp.dirties, VmOp.acts]
theorem xt_goes {e : Env} {s₀ : State} {f : JFrame} {a : Addr} {cell : Cell} (hobj : ∀ k, cell.vm ≠ .statics k) (hk0 : ∃ k, s₀.vm.classes[cell.cls]? = some k) :
    ∀ (t : List ExceptionTableEntry) (h : Nat) (S : State), s₀.WarmedH S.vm → S.heap[a]? = some cell → xt_row e.platform s₀ f.method.cls f.pc cell.cls t h →
      ∃ vm', s₀.WarmedH vm' ∧ ∀ (Q : Handler → Pre) (E : CtlPost) (d : Bool) (acts : List Action), wp (findHandler.go f a t) Q E e d acts S ↔ Q (.found h) d acts (S.setVm vm') := by
  obtain ⟨k0, hk0⟩ := hk0
  intro t
  induction t with
  | nil => intro h S _ _ hr; exact hr.elim
  | cons x t ih =>
    intro h S hW hcell hr
    rcases hr with ⟨h1, h2⟩ | ⟨h1, h2, cT, hl, h3⟩
    · obtain ⟨vm', w1, w2⟩ := ih h S hW hcell h2
      exact ⟨vm', w1, fun Q E d acts => by rw [W.findHandler_go_skip h1]; exact w2 Q E d acts⟩
    · obtain ⟨dk, _, _, kt, hd, _, _, _, _, hkt, _, hopen⟩ := hl.here
      obtain ⟨k0', hk0', -⟩ := hW.alike.2.2 _ _ hk0
      obtain ⟨kt', hkt', -⟩ := hW.alike.2.2 _ _ hkt
      have hN := hW.noted hd hopen (State.rightAt_cls hl)
      rcases h3 with ⟨h3, rfl⟩ | ⟨h3, h4⟩
      · exact ⟨_, hN, fun Q E d acts => by
          rw [xt_step h1 h2 (hW.classLinks hl) hcell hobj ⟨k0', hk0'⟩ ⟨kt', hkt'⟩ true (by rw [hW.alike.assignable]; exact h3), if_pos rfl]⟩
      · obtain ⟨vm', w1, w2⟩ := ih h (S.setVm (S.vm.noted f.method.cls x.catchType (.cls cT))) hN hcell h4
        exact ⟨vm', w1, fun Q E d acts => by
          rw [xt_step h1 h2 (hW.classLinks hl) hcell hobj ⟨k0', hk0'⟩ ⟨kt', hkt'⟩ false (by rw [hW.alike.assignable]; exact h3), if_neg (by decide)]
          exact w2 Q E d acts⟩
/-- one step of the unwinding: into the handler -/
theorem xt_caught {tb : Tables} {e : Env} {s target : State} {g : JFrame} {c : Code} {below : List Frame} {a : Addr} (h : At s g.method c below) {pc : Nat} {vm' : Vm}
    (hf : ∀ (Q : Handler → Pre) (E : CtlPost) (d : Bool) (acts : List Action), wp (findHandler g a) Q E e d acts ((s.setTop g).pushFrame (.throwing a)) ↔ Q (.found pc) d acts (((s.setTop g).pushFrame (.throwing a)).setVm vm'))
    (hrest : Steps tb e below ((s.setVm vm').setTop { g with pc := pc, stack := [.ref a] }) target) :
    Steps tb e below ((s.setTop g).pushFrame (.throwing a)) target := by
  obtain ⟨hgo, hw⟩ := h.throwing a
  refine Steps.head hgo hw ?_
  rw [stepThread_throwing (frames_entered h.top _)]
  have hst : ∀ r, (stepThrowing e ((s.setTop g).pushFrame (.throwing a)) a (.java g :: r)).Is ((((s.setTop g).pushFrame (.throwing a)).setVm vm').setFrames (.java { g with pc := pc, stack := [.ref a] } :: r)) [] := by
    intro r
    simp only [stepThrowing, searchFrame, vmDo]
    generalize hr : Sem.go _ e false [] ((s.setTop g).pushFrame (.throwing a)) = res
    obtain ⟨as, rfl, ha⟩ := Sem.eq_ok_of hr (a := Handler.found pc) (s' := ((s.setTop g).pushFrame (.throwing a)).setVm vm') (acts' := []) (by simp [hf _ _ _ _])
    exact ⟨rfl, ha⟩
  rw [(hst _).1]
  obtain ⟨g₀, hg⟩ := Option.isSome_iff_exists.mp h.top
  obtain ⟨r, hr⟩ := State.topJava?_eq_some.mp hg
  have hr' : (s.setVm vm').frames = .java g₀ :: r := hr
  have two : ∀ (u : State) (F G : List Frame), ((u.setFrames F).setVm vm').setFrames G = (u.setVm vm').setFrames G := fun u F G => by
    have h1 : (u.setFrames F).setVm vm' = (u.setVm vm').setFrames F := rfl
    rw [h1, State.setFrames_setFrames]
  rw [State.setTop_of_frames _ hr'] at hrest
  rw [hr, List.tail_cons, State.pushFrame, two, State.setTop_of_frames _ hr, two]
  exact hrest
section XC
variable {p : Program} {l : Launch} {e : Env} {R : Room} {s : State} {m : MethodId} {args : Array Value} {below : List Frame} {meth : Method} {c : Code} {H : Heap} {locs : List Loc} {cells slots : Nat} {Q : State → Prop}
variable {y : MethodName} {bytes cc : ByteArray} {maxL nL mc ms n index : Nat} {ret : Option FieldType} {ws : List Cond} {rm : Room} {Pc : Array Value → State → Prop} {Ts : List Cond} {own C X : String} {b : Addr} {As rest : List Value}
/-- invokevirtual of a method that throws, caught by the caller's own table -/
theorem xt_catchV (S : CallFix p m c cc nL s args Ts own) (hM : MetT l y ws rm Pc X mc ms) (cw : CallW R s args own C index y bytes maxL ret ws rm mc ms n) (hp : PreV s H C b Pc As)
    (hn : As.length = n) {pc : Nat} {ls : Array Slot} {st0 : List Value} (hsize : ls.size = nL) (hstack : st0 = As.reverse ++ .ref b :: rest) (hW : (rest.map fun v => v.category).sum ≤ 8) (hdg : decode cc pc = .ok (.invokevirtual index, 3)) (hf : cells + mc ≤ R.cells ∧ slots + ms ≤ R.slots) {hpc : Nat}
    (htab : ∀ pl : Platform, pl.magicAccessors = ({} : Platform).magicAccessors → ∀ th : ClassId, s.vm.findClass X = some th → xt_row pl s m.cls pc th c.exceptionTable.toList hpc)
    (kk : ∀ (a : Nat) (H1 : Heap), H.size ≤ H1.size → (∀ q : Nat, q < H.size → H1[q]? = H[q]?) → W p l e R s m args below meth c H1 locs (cells + mc) (slots + ms) Q (F0 m hpc ls [.ref a])) :
    W p l e R s m args below meth c H locs cells slots Q (F0 m pc ls st0) := by
  obtain ⟨⟨hrc, hrs, hfr, hlo, hws, hcw, hcode, hini, hy, hlen, hl⟩, hin, hse⟩ := cw
  obtain ⟨hx, hb, hml, ho, -⟩ := S
  obtain ⟨hblind, ⟨cellB, hcB, hoB, hclB⟩, hPc⟩ := hp
  intro T hT V
  obtain ⟨mk, methM, hnamed, hmethM, hstM, habM⟩ := Cond.instanceMethod_spec hin
  obtain ⟨methM', cM, hmethM', hcM, -, hlM, -, -, -, hsigM⟩ := Cond.code_spec hnamed hcode
  cases hmethM.symm.trans hmethM'
  obtain ⟨c2, r2, m2, q1, q2, q3, q4, kP, hkP, hkPi⟩ := Cond.selects_spec hse
  cases hclB.symm.trans q1
  cases (State.methodFound?_of_named hnamed hy).symm.trans q2
  cases hnamed.symm.trans q3
  have hselP : selectMethod e.platform s.vm cellB.cls mk = .method mk := by rw [Launch.admits_selectMethod V.admits]; exact q4
  obtain ⟨vm₁, V₁, hstep₁⟩ := V.invokevirtual hx ho hl hnamed hmethM hstM hkP hkPi hy (a := b) (cell := cellB) (by rw [hT]; exact hcB)
    (fun z h => by rw [h] at hoB; cases hoB) hselP hmethM habM hkP hkPi (g := F0 m pc ls st0) rfl (argsL := As) (rest := rest) (hn.trans (hlen _ hsigM)) hstack (by rw [hb]; exact hdg)
  have hinitP : kP.init = .initialized := Cond.initialized_spec (findClass_of_methodNamed hnamed) hkP hini
  have hU : (T.setVm vm₁).heap = H := hT
  generalize hUe : T.setVm vm₁ = U at V₁ hU hstep₁
  have h : At U (F0 m pc ls rest).method c below := V₁.here
  have hdg' : decode c.code (F0 m pc ls rest).pc = .ok (.invokevirtual index, 3) := by rw [hb]; exact hdg
  obtain ⟨kQ, hkQ, heQ⟩ := V₁.warmed.alike.2.2 _ _ hkP
  have happ : (headSpec ws rm).appliesLoose y e.platform (U.calling (F0 m pc ls rest) mk (Value.ref b :: As).toArray) = true :=
    Spec.appliesLoose_calling (g := F0 m pc ls rest) h hdg' (V₁.named hnamed) hkQ (by rw [heQ]; exact hinitP)
      (V₁.room_calling (g := F0 m pc ls rest) (R' := (headSpec ws rm).room) (hsize.trans hml.symm) (show U.vm.method? mk = some methM by rw [V₁.warmed.alike.method?]; exact hmethM) hcM hfr
        (by show 2 * 0 + (rest.map fun v => v.category).sum + (cM.maxLocals + 11) + rm.locals ≤ R.locals; rw [hlM]; omega) (by show cells + rm.cells ≤ R.cells; rw [hrc]; exact hf.1) (by show slots + rm.slots ≤ R.slots; rw [hrs]; exact hf.2))
      (atoms_intro fun w hw => hws w hw _ _ V₁.warmed)
  obtain ⟨mid, hmid⟩ := h.above
  have hfr' : (U.setTop (F0 m pc ls rest)).frames = (.java (F0 m pc ls rest) :: mid) ++ below := by rw [State.frames_setTop' _ h.top, hmid]; rfl
  obtain ⟨o, s₂, hsteps, -, hend, hq⟩ := Steps.callFree hM p V.admits V.cas V.clock (acts := []) hfr' happ (hblind _ _ _ _ (hPc U hU V₁.warmed)) trivial
  have hq' : xt_E X mc ms (U.calling (F0 m pc ls rest) mk (Value.ref b :: As).toArray) o s₂ := hq
  obtain ⟨⟨a, ce, rfl, hce, hcl, hst⟩, hW₂, hsm⟩ := hq'
  obtain ⟨e2, q2', q3', q4', q5', q6'⟩ := id hsm
  rw [State.frames_setTop' _ h.top] at hend
  have hf₂ : s₂.frames = .throwing a :: .java (F0 m pc ls rest) :: U.frames.tail := hend
  have hWU : U.WarmedH s₂.vm := hW₂
  have e3 : s₂ = ({ (U.calling (F0 m pc ls rest) mk (Value.ref b :: As).toArray).setFrames s₂.frames with heap := s₂.heap, slotsUsed := s₂.slotsUsed } : State).setVm s₂.vm := by
    have : s₂ = ({ s₂ with vm := (U.calling (F0 m pc ls rest) mk (Value.ref b :: As).toArray).vm } : State).setVm s₂.vm := rfl
    rw [e2] at this
    exact this
  obtain ⟨g₀, hg0⟩ := Option.isSome_iff_exists.mp h.top
  obtain ⟨r, hr⟩ := State.topJava?_eq_some.mp hg0
  have hs₂ : s₂ = ((({ U with heap := s₂.heap, slotsUsed := s₂.slotsUsed } : State).setVm s₂.vm).setTop (F0 m pc ls rest)).pushFrame (.throwing a) := by
    have hr' : (({ U with heap := s₂.heap, slotsUsed := s₂.slotsUsed } : State).setVm s₂.vm).frames = .java g₀ :: r := hr
    refine e3.trans ?_
    rw [hf₂, State.calling_eq h.top, State.setFrames_setFrames, State.pushFrame, State.frames_setTop _ hr', State.setTop_of_frames _ hr', State.setFrames_setFrames, hr]
    rfl
  have hsame : U.sameButNew ({ U with heap := s₂.heap, slotsUsed := s₂.slotsUsed } : State) [] mc ms := by
    refine ⟨?_, q2', q3', q4', q5', q6'⟩
    obtain ⟨t, ht, -⟩ := State.frames_cons hr
    show ({ U with heap := s₂.heap, slotsUsed := s₂.slotsUsed } : State) = { U.setFrames U.frames with heap := s₂.heap, slotsUsed := s₂.slotsUsed }
    rw [State.setFrames_self ht]
  have V₂ : Stand p l e R s m args below meth c (({ U with heap := s₂.heap, slotsUsed := s₂.slotsUsed } : State).setVm s₂.vm) (locs ++ []) (cells + mc) (slots + ms) :=
    ⟨V₁.admits, V₁.cas, V₁.clock, V₁.frames, V₁.room, V₁.hears, V₁.method, V₁.code, (V₁.here.setHeapUsed s₂.heap s₂.slotsUsed).setVm hWU.alike, V₁.tail, State.WarmedH.trans V₁.warmed hWU, V₁.limits, V₁.bytes, V₁.same.trans (hsame.setVm s.vm)⟩
  rw [List.append_nil] at V₂
  have hold := xt_old (s := U.calling (F0 m pc ls rest) mk (Value.ref b :: As).toArray) (t := s₂) hsm
  have hcl' : s.vm.findClass X = some ce.cls := by rw [← V₁.warmed.alike.findClass]; exact hcl
  generalize hV : (({ U with heap := s₂.heap, slotsUsed := s₂.slotsUsed } : State).setVm s₂.vm) = Z at V₂ hs₂
  have hZh : Z.heap = s₂.heap := by rw [← hV]; rfl
  have hpl : e.platform.magicAccessors = ({} : Platform).magicAccessors := by rw [V.admits.platform]
  obtain ⟨vm', hW', hfind⟩ := xt_goes (e := e) (s₀ := s) (f := F0 m pc ls rest) (a := a) (cell := ce) (VmData.ne_statics_of hst) (Vm.classAt_of_findClass hcl') c.exceptionTable.toList hpc ((Z.setTop (F0 m pc ls rest)).pushFrame (.throwing a))
    (by rw [Stand.throwing_vm]; exact V₂.warmed) (by rw [Stand.throwing_heap, hZh]; exact hce) (htab _ hpl _ hcl')
  obtain ⟨t, a1, b1⟩ := kk a s₂.heap (by rw [← hU]; exact hold.1) (fun q hq => by rw [← hU]; exact hold.2 q (by rw [← hU] at hq; exact hq)) (Z.setVm vm') hZh (V₂.noted hW')
  refine ⟨t, hstep₁ _ fun acts => ?_, b1⟩
  rw [doInvoke_state]
  refine hsteps.trans ?_
  rw [hs₂]
  exact xt_caught (g := F0 m pc ls rest) V₂.here (fun Q E d acts => by rw [W.findHandler_eq (meth := meth) (code := c) (by rw [Stand.throwing_vm]; exact V₂.method') V₂.code]; exact hfind Q E d acts) a1
end XC
section XW
variable {p : Program} {l : Launch} {e : Env} {R : Room} {s : State} {m : MethodId} {args : Array Value} {below : List Frame} {meth : Method} {c : Code} {H : Heap} {locs : List Loc} {cells slots : Nat} {Q : State → Prop}
theorem xt_ldcwS {cc : ByteArray} (hexec : p.tables.exec = Jvm.exec) (hb : c.code = cc) {own tx : String} {index q : Nat} (hown : s.vm.findClass own = some m.cls) (hZ : vk_R own index tx q s) {pc : Nat} {ls : Array Slot} {rest : List Value} (hdg : decode cc pc = .ok (.ldc_w index, 3))
    (kk : W p l e R s m args below meth c H locs cells slots Q (F0 m (pc + 3) ls (.ref q :: rest))) : W p l e R s m args below meth c H locs cells slots Q (F0 m pc ls rest) := by
  intro T hT X
  obtain ⟨t, a1, b1⟩ := kk T hT X
  refine ⟨t, ?_, b1⟩
  obtain ⟨k, cf, i, a', hk, hcf, hcp, -, hr, hev'⟩ := Cond.stringRef_spec hown hZ.1
  cases hZ.2.symm.trans hev'
  obtain ⟨k', hk', he⟩ := X.warmed.alike.2.2 _ _ hk
  have hr' : k'.resolved[index]? = some (some (.string q)) := by
    rcases X.warmed.entry hk hk' index with h | ⟨h, -⟩
    · rw [h]; exact hr
    · rw [hr] at h; cases h
  have hdg' : decode c.code (F0 m pc ls rest).pc = .ok (.ldc_w index, 3) := by rw [hb]; exact hdg
  jvm_step X.here [hexec, hdg', ldc_w.wp_string (e := e) (s := T) (f := F0 m pc ls rest) X.here.top hk' (by rw [he]; exact hcf) hcp hr']
  exact a1
theorem xt_throwW {cc : ByteArray} (hexec : p.tables.exec = Jvm.exec) (hb : c.code = cc) (htl : l.stackTraces = false) {own X tx : String} {names : List String} {i0 i1 i2 q : Nat}
    (hown : s.vm.findClass own = some m.cls) (hcl : (Cond.classLink own i0 X).before args s = true) (hins : (Cond.instantiable X 6).before args s = true) (hini : (Cond.initialized X).before args s = true)
    (hZ : vk_R own i1 tx q s) (hw : ∀ a ∈ Bundle.ownAtoms own i2 X names, a.before args s = true) (hfit : Bundle.fit X = true) (hnames : ∀ n ∈ names, Bundle.fit n = true)
    {pc : Nat} {ls : Array Slot} (d0 : decode cc pc = .ok (.new i0, 3)) (d3 : decode cc (pc + 3) = .ok (.dup, 1)) (d4 : decode cc (pc + 4) = .ok (.ldc_w i1, 3)) (d6 : decode cc (pc + 7) = .ok (.invokespecial i2, 3)) (d9 : decode cc (pc + 10) = .ok (.athrow, 1))
    (hout : c.exceptionTable.isEmpty = true) (hsz : ls.size = c.maxLocals) (hlocks : meth.locks = false) (hRf : names.length + 3 < R.frames) (hRl : 1 + (13 * (names.length + 1) + 42) ≤ R.locals) (hRc : 1 ≤ R.cells) (hRs : 6 ≤ R.slots) :
    W p l e R s m args below meth c s.heap [] 0 0 (xt_Z below X s 1 6) (F0 m pc ls []) := by
  refine W.newc hexec hb hown hcl hins hini rfl d0 (by simpa using hRc) (by simpa using hRs) fun cX kX h1 h2 h3 h4 => ?_
  refine lv_dup hexec hb d3 rfl ?_
  refine xt_ldcwS hexec hb hown hZ d4 ?_
  intro T hT V
  have htr : e.platform.stackTraces = false := by rw [V.admits.platform]; exact htl
  have hno : ∀ x ∈ c.exceptionTable.toList, covers x (pc + 7 + 3) = false := by
    have h0 : c.exceptionTable.size = 0 := by simpa [Array.isEmpty] using hout
    have h1 : c.exceptionTable.toList = [] := List.eq_nil_of_length_eq_zero (by simpa using h0)
    intro x hx
    rw [h1] at hx
    cases hx
  obtain ⟨U, u1, u2, u3, u4, u5, ce, u6, u7⟩ := V.ctorThrowS hexec htr hown hfit hnames hw (by intro x hx; cases hx) (a := s.heap.size) (cX := cX) (kX := kX) h1 h2
    (by rw [hT]; simp [freshCell]) (Nat.le_refl _) (msg := .ref q) rfl
    (g := F0 m (pc + 7) ls [.ref q, .ref s.heap.size, .ref s.heap.size]) rfl hsz rfl rfl (rest := []) rfl (by rw [hb]; exact d6) (by rw [hb]; exact d9) hno hRf (by simpa [Value.category] using hRl) hlocks
  exact ⟨U, u1, .threw s.heap.size, u2, u3, ⟨s.heap.size, ce, rfl, u6, u7.cls, by rw [u7.vm]; rfl⟩, u4, by simpa using u5⟩
end XW
