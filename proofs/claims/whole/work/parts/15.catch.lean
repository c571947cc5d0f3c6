/-! a handler is found: its kind may have been looked up before, or is now -/
def je_F (e : Env) (s : State) (f : JFrame) (a : Addr) (h : Handler) (vm' : Vm) : Prop :=
  ∀ (Q : Handler → Pre) (E : CtlPost) (d : Bool) (acts : List Action), wp (findHandler f a) Q E e d acts s ↔ Q h d acts (s.setVm vm')
section JEC
variable {Q : Handler → Pre} {E : CtlPost} {e : Env} {d : Bool} {acts : List Action} {s : State} {f : JFrame} {a : Addr}
/-- the first row of the table covers the pc and takes the object -/
theorem je_hit {x : ExceptionTableEntry} {t : List ExceptionTableEntry} {c : ClassId} {cell : Cell} (hx : covers x f.pc = true) (h0 : x.catchType ≠ 0) (hl : s.vm.ClassLinks e.platform f.method.cls x.catchType c) (hcell : s.heap[a]? = some cell) (hobj : ∀ k, cell.vm ≠ .statics k) (hk : ∃ k, s.vm.classes[cell.cls]? = some k) (hc : ∃ k, s.vm.classes[c]? = some k) (hfit : s.vm.assignable cell.cls c = true) :
    wp (findHandler.go f a (x :: t)) Q E e d acts s ↔ Q (.found x.handlerPc) d acts (s.setVm (s.vm.noted f.method.cls x.catchType (.cls c))) := by
  have hx' := hx
  simp only [covers] at hx'
  obtain ⟨g1, g2⟩ := (resolveClass_links e.toSetting hl).op (op := VmOp.resolveClass f.method.cls x.catchType) rfl
  have hal : s.vm.Alike (s.vm.noted f.method.cls x.catchType (.cls c)) := (Vm.Alike.refl s.vm).noted _ _ _
  obtain ⟨k1, hk1⟩ := hk
  obtain ⟨k2, hk2⟩ := hc
  obtain ⟨k3, hk3, -⟩ := hal.2.2 _ _ hk1
  obtain ⟨k4, hk4, -⟩ := hal.2.2 _ _ hk2
  have hf : (s.vm.noted f.method.cls x.catchType (.cls c)).assignable cell.cls c = true := hal.assignable _ _ ▸ hfit
  simp [findHandler.go, hx', h0, g1, g2, hcell, hobj, hk3, hk4, hf, VmOp.dirties, VmOp.acts]
/-- the first row covers the pc and does not take the object -/
theorem je_miss {x : ExceptionTableEntry} {t : List ExceptionTableEntry} {c : ClassId} {cell : Cell} (hx : covers x f.pc = true) (h0 : x.catchType ≠ 0) (hl : s.vm.ClassLinks e.platform f.method.cls x.catchType c) (hcell : s.heap[a]? = some cell) (hobj : ∀ k, cell.vm ≠ .statics k) (hk : ∃ k, s.vm.classes[cell.cls]? = some k) (hc : ∃ k, s.vm.classes[c]? = some k) (hfit : s.vm.assignable cell.cls c = false) :
    wp (findHandler.go f a (x :: t)) Q E e d acts s ↔ wp (findHandler.go f a t) Q E e d acts (s.setVm (s.vm.noted f.method.cls x.catchType (.cls c))) := by
  have hx' := hx
  simp only [covers] at hx'
  obtain ⟨g1, g2⟩ := (resolveClass_links e.toSetting hl).op (op := VmOp.resolveClass f.method.cls x.catchType) rfl
  have hal : s.vm.Alike (s.vm.noted f.method.cls x.catchType (.cls c)) := (Vm.Alike.refl s.vm).noted _ _ _
  obtain ⟨k1, hk1⟩ := hk
  obtain ⟨k2, hk2⟩ := hc
  obtain ⟨k3, hk3, -⟩ := hal.2.2 _ _ hk1
  obtain ⟨k4, hk4, -⟩ := hal.2.2 _ _ hk2
  have hf : (s.vm.noted f.method.cls x.catchType (.cls c)).assignable cell.cls c = false := hal.assignable _ _ ▸ hfit
  simp [findHandler.go, hx', h0, g1, g2, hcell, hobj, hk3, hk4, hf, VmOp.dirties, VmOp.acts]
theorem je_step {r : List Frame} {pc : Nat} {vm' : Vm} (hfind : je_F e s f a (.found pc) vm') : (stepThrowing e s a (.java f :: r)).Is ((s.setVm vm').setFrames (.java { f with pc := pc, stack := [.ref a] } :: r)) [] := by
  simp only [stepThrowing, searchFrame, vmDo]
  generalize hr : Sem.go _ e false [] s = res
  obtain ⟨as, rfl, ha⟩ := Sem.eq_ok_of hr (a := Handler.found pc) (s' := s.setVm vm') (acts' := []) (by simp [hfind _ _ _ _])
  exact ⟨rfl, ha⟩
theorem je_steps {tb : Tables} {target : State} {c : Code} {below : List Frame} {pc : Nat} {vm' : Vm} (h : At s f.method c below) (hfind : je_F e ((s.setTop f).pushFrame (.throwing a)) f a (.found pc) vm')
    (hrest : Steps tb e below ((s.setVm vm').setTop { f with pc := pc, stack := [.ref a] }) target) : Steps tb e below ((s.setTop f).pushFrame (.throwing a)) target := by
  obtain ⟨hgo, hw⟩ := h.throwing a
  refine Steps.head hgo hw ?_
  rw [stepThread_throwing (frames_entered h.top _), (je_step (s := (s.setTop f).pushFrame (.throwing a)) hfind).1]
  obtain ⟨g₀, hg⟩ := Option.isSome_iff_exists.mp h.top
  obtain ⟨r, hr⟩ := State.topJava?_eq_some.mp hg
  have hr' : (s.setVm vm').frames = .java g₀ :: r := hr
  rw [State.setTop_of_frames _ hr'] at hrest
  have e1 : ∀ F G : List Frame, ((s.setFrames F).setVm vm').setFrames G = (s.setVm vm').setFrames G := fun F G => by
    rw [show (s.setFrames F).setVm vm' = (s.setVm vm').setFrames F from rfl, State.setFrames_setFrames]
  rw [hr, List.tail_cons, State.pushFrame, State.setTop_of_frames _ hr, State.setFrames_setFrames, e1]
  exact hrest
end JEC
section JES
variable {p : Program} {l : Launch} {e : Env} {R : Room} {s : State} {m : MethodId} {args : Array Value} {below : List Frame} {meth : Method} {c : Code} {T : State} {locs : List Loc} {cells slots : Nat}
/-- caught by the first row -/
theorem je_catch1 (X : Stand p l e R s m args below meth c T locs cells slots) {a : Addr} {g : JFrame} (hg : g.method = m) {own nm cls : String} {x : ExceptionTableEntry} {rest : List ExceptionTableEntry} (hown : s.vm.findClass own = some m.cls) (htab : c.exceptionTable.toList = x :: rest) (hx : covers x g.pc = true) (h0 : x.catchType ≠ 0) (hlink : (Cond.classLink own x.catchType nm).before args s = true)
    {cell : Cell} (hcell : T.heap[a]? = some cell) (hobj : ∀ k, cell.vm ≠ .statics k) (hcls : s.vm.findClass cls = some cell.cls) (hkc : ∃ k, s.vm.classes[cell.cls]? = some k) (hkn : ∀ cc, s.vm.findClass nm = some cc → ∃ k, s.vm.classes[cc]? = some k) (hcast : (Cond.castable cls nm).before args s = true) :
    ∃ vm', Stand p l e R s m args below meth c (T.setVm vm') locs cells slots ∧ ∀ target, Steps p.tables e below ((T.setVm vm').setTop { g with pc := x.handlerPc, stack := [.ref a] }) target → Steps p.tables e below ((T.setTop g).pushFrame (.throwing a)) target := by
  subst hg
  have hpl : e.platform.magicAccessors = ({} : Platform).magicAccessors := by rw [X.admits.platform]
  obtain ⟨cC, hfc, hcl⟩ := Cond.classLink_spec hown hlink e.platform hpl
  obtain ⟨-, hwarm, -⟩ := State.classEntry (e := e) X.warmed hcl
  have hcl' := State.WarmedH.classLinks X.warmed hcl
  obtain ⟨c1, c2, q1, q2, q3⟩ := Cond.castable_spec hcast
  cases hcls.symm.trans q1
  cases hfc.symm.trans q2
  have hal := X.warmed.alike
  obtain ⟨k1, hk1⟩ := hkc
  obtain ⟨k2, hk2⟩ := hkn _ hfc
  obtain ⟨k3, hk3, -⟩ := hal.2.2 _ _ hk1
  obtain ⟨k4, hk4, -⟩ := hal.2.2 _ _ hk2
  have hmeth : T.vm.method? g.method = some meth := X.method'
  refine ⟨_, X.noted hwarm, fun target hrest => ?_⟩
  refine je_steps X.here (vm' := T.vm.noted g.method.cls x.catchType (.cls cC)) ?_ hrest
  intro Q E d acts
  rw [W.findHandler_eq (code := c) (by rw [Stand.throwing_vm]; exact hmeth) X.code, htab]
  have K := je_hit (Q := Q) (E := E) (d := d) (acts := acts) (s := (T.setTop g).pushFrame (.throwing a)) (f := g) (a := a) (x := x) (t := rest) (c := cC) (cell := cell) hx h0 (by rw [Stand.throwing_vm]; exact hcl') (by rw [Stand.throwing_heap]; exact hcell) hobj (by rw [Stand.throwing_vm]; exact ⟨_, hk3⟩) (by rw [Stand.throwing_vm]; exact ⟨_, hk4⟩) (by rw [Stand.throwing_vm, hal.assignable]; exact q3)
  rw [Stand.throwing_vm] at K
  exact K
/-- the first row lets it pass, the second takes it -/
theorem je_catch2 (X : Stand p l e R s m args below meth c T locs cells slots) {a : Addr} {g : JFrame} (hg : g.method = m) {own nm nm2 cls : String} {x y : ExceptionTableEntry} {rest : List ExceptionTableEntry} (hown : s.vm.findClass own = some m.cls) (htab : c.exceptionTable.toList = x :: y :: rest) (hx : covers x g.pc = true) (h0 : x.catchType ≠ 0) (hy : covers y g.pc = true) (h02 : y.catchType ≠ 0) (hlink : (Cond.classLink own x.catchType nm).before args s = true) (hlink2 : (Cond.classLink own y.catchType nm2).before args s = true)
    {cell : Cell} (hcell : T.heap[a]? = some cell) (hobj : ∀ k, cell.vm ≠ .statics k) (hcls : s.vm.findClass cls = some cell.cls) (hkc : ∃ k, s.vm.classes[cell.cls]? = some k) (hkn : ∀ cc, s.vm.findClass nm = some cc → ∃ k, s.vm.classes[cc]? = some k) (hkn2 : ∀ cc, s.vm.findClass nm2 = some cc → ∃ k, s.vm.classes[cc]? = some k) (hno : (Cond.not (.castable cls nm)).before args s = true) (hcast : (Cond.castable cls nm2).before args s = true) :
    ∃ vm', Stand p l e R s m args below meth c (T.setVm vm') locs cells slots ∧ ∀ target, Steps p.tables e below ((T.setVm vm').setTop { g with pc := y.handlerPc, stack := [.ref a] }) target → Steps p.tables e below ((T.setTop g).pushFrame (.throwing a)) target := by
  subst hg
  have hpl : e.platform.magicAccessors = ({} : Platform).magicAccessors := by rw [X.admits.platform]
  obtain ⟨cC, hfc, hcl⟩ := Cond.classLink_spec hown hlink e.platform hpl
  obtain ⟨cD, hfd, hcl2⟩ := Cond.classLink_spec hown hlink2 e.platform hpl
  obtain ⟨-, hwarm, -⟩ := State.classEntry (e := e) X.warmed hcl
  obtain ⟨-, hwarm2, -⟩ := State.classEntry (e := e) hwarm hcl2
  have hcl' := State.WarmedH.classLinks X.warmed hcl
  have hcl2' := State.WarmedH.classLinks hwarm hcl2
  obtain ⟨c1, c2, q1, q2, q3⟩ := Cond.castable_spec hcast
  cases hcls.symm.trans q1
  cases hfd.symm.trans q2
  have hno' : s.vm.assignable cell.cls cC = false := by
    simp only [Cond.before, Cond.holds, Cond.value, hcls, hfc] at hno
    simpa using hno
  have hal := X.warmed.alike
  have hal2 := hwarm.alike
  obtain ⟨k1, hk1⟩ := hkc
  obtain ⟨k2, hk2⟩ := hkn _ hfc
  obtain ⟨k5, hk5⟩ := hkn2 _ hfd
  obtain ⟨k3, hk3, -⟩ := hal.2.2 _ _ hk1
  obtain ⟨k4, hk4, -⟩ := hal.2.2 _ _ hk2
  obtain ⟨k6, hk6, -⟩ := hal2.2.2 _ _ hk1
  obtain ⟨k7, hk7, -⟩ := hal2.2.2 _ _ hk5
  have hmeth : T.vm.method? g.method = some meth := X.method'
  refine ⟨_, X.noted hwarm2, fun target hrest => ?_⟩
  refine je_steps X.here (vm' := (T.vm.noted g.method.cls x.catchType (.cls cC)).noted g.method.cls y.catchType (.cls cD)) ?_ hrest
  intro Q E d acts
  rw [W.findHandler_eq (code := c) (by rw [Stand.throwing_vm]; exact hmeth) X.code, htab]
  have K := je_miss (Q := Q) (E := E) (d := d) (acts := acts) (s := (T.setTop g).pushFrame (.throwing a)) (f := g) (a := a) (x := x) (t := y :: rest) (c := cC) (cell := cell) hx h0 (by rw [Stand.throwing_vm]; exact hcl') (by rw [Stand.throwing_heap]; exact hcell) hobj (by rw [Stand.throwing_vm]; exact ⟨_, hk3⟩) (by rw [Stand.throwing_vm]; exact ⟨_, hk4⟩) (by rw [Stand.throwing_vm, hal.assignable]; exact hno')
  rw [Stand.throwing_vm] at K
  rw [K]
  exact je_hit (Q := Q) (E := E) (d := d) (acts := acts) (s := ((T.setTop g).pushFrame (.throwing a)).setVm (T.vm.noted g.method.cls x.catchType (.cls cC))) (f := g) (a := a) (x := y) (t := rest) (c := cD) (cell := cell) hy h02 hcl2' (by show ((T.setTop g).pushFrame (.throwing a)).heap[a]? = _; rw [Stand.throwing_heap]; exact hcell) hobj ⟨_, hk6⟩ ⟨_, hk7⟩ (by show (T.vm.noted g.method.cls x.catchType (.cls cC)).assignable _ _ = true; rw [hal2.assignable]; exact q3)
end JES
