/-! AN EXCEPTION IS CAUGHT: the classes of the table may be looked up for the first time -/
section EZ12
variable {e : Env} {d : Bool} {acts : List Action} {s : State} {f : JFrame} {a : Addr} {Q : Handler → Pre} {E : CtlPost}
theorem ez_go_yes {x : ExceptionTableEntry} {t : List ExceptionTableEntry} {c : ClassId} {cell : Cell} (hx : covers x f.pc = true) (h0 : x.catchType ≠ 0) (hl : s.vm.ClassLinks e.platform f.method.cls x.catchType c) (hcell : s.heap[a]? = some cell) (hobj : ∀ k, cell.vm ≠ .statics k)
    (hk : ∃ k, s.vm.classes[cell.cls]? = some k) (hc : ∃ k, s.vm.classes[c]? = some k) (hfit : s.vm.assignable cell.cls c = true) :
    wp (findHandler.go f a (x :: t)) Q E e d acts s ↔ Q (.found x.handlerPc) d acts (s.setVm (s.vm.noted f.method.cls x.catchType (.cls c))) := by
  simp only [covers] at hx
  obtain ⟨ha, ht⟩ := (resolveClass_links e.toSetting hl).op (op := VmOp.resolveClass f.method.cls x.catchType) rfl
  have hal : s.vm.Alike (s.vm.noted f.method.cls x.catchType (.cls c)) := (Vm.Alike.refl s.vm).noted _ _ _
  obtain ⟨k1, hk1⟩ := hk
  obtain ⟨k2, hk2⟩ := hc
  obtain ⟨k1', hk1', -⟩ := hal.2.2 _ _ hk1
  obtain ⟨k2', hk2', -⟩ := hal.2.2 _ _ hk2
  have hfit' : (s.vm.noted f.method.cls x.catchType (.cls c)).assignable cell.cls c = true := by rw [hal.assignable]; exact hfit
  simp [findHandler.go, hx, h0, ha, ht, hcell, hobj, hk1', hk2', hfit', VmOp.dirties, VmOp.acts]
theorem ez_go_no {x : ExceptionTableEntry} {t : List ExceptionTableEntry} {c : ClassId} {cell : Cell} (hx : covers x f.pc = true) (h0 : x.catchType ≠ 0) (hl : s.vm.ClassLinks e.platform f.method.cls x.catchType c) (hcell : s.heap[a]? = some cell) (hobj : ∀ k, cell.vm ≠ .statics k)
    (hk : ∃ k, s.vm.classes[cell.cls]? = some k) (hc : ∃ k, s.vm.classes[c]? = some k) (hfit : s.vm.assignable cell.cls c = false) :
    wp (findHandler.go f a (x :: t)) Q E e d acts s ↔ wp (findHandler.go f a t) Q E e d acts (s.setVm (s.vm.noted f.method.cls x.catchType (.cls c))) := by
  simp only [covers] at hx
  obtain ⟨ha, ht⟩ := (resolveClass_links e.toSetting hl).op (op := VmOp.resolveClass f.method.cls x.catchType) rfl
  have hal : s.vm.Alike (s.vm.noted f.method.cls x.catchType (.cls c)) := (Vm.Alike.refl s.vm).noted _ _ _
  obtain ⟨k1, hk1⟩ := hk
  obtain ⟨k2, hk2⟩ := hc
  obtain ⟨k1', hk1', -⟩ := hal.2.2 _ _ hk1
  obtain ⟨k2', hk2', -⟩ := hal.2.2 _ _ hk2
  have hfit' : (s.vm.noted f.method.cls x.catchType (.cls c)).assignable cell.cls c = false := by rw [hal.assignable]; exact hfit
  simp [findHandler.go, hx, h0, ha, ht, hcell, hobj, hk1', hk2', hfit', VmOp.dirties, VmOp.acts]
end EZ12
def ez_Finds (e : Env) (s : State) (f : JFrame) (a : Addr) (h : Handler) (vm' : Vm) : Prop :=
  ∀ (Q : Handler → Pre) (E : CtlPost) (d : Bool) (acts : List Action), wp (findHandler f a) Q E e d acts s ↔ Q h d acts (s.setVm vm')
theorem ez_step_catch {e : Env} {s : State} {a : Addr} {f : JFrame} {r : List Frame} {pc : Nat} {vm' : Vm} (hfind : ez_Finds e s f a (.found pc) vm') :
    (stepThrowing e s a (.java f :: r)).Is ((s.setVm vm').setFrames (.java { f with pc := pc, stack := [.ref a] } :: r)) [] := by
  simp only [stepThrowing, searchFrame, vmDo]
  generalize hr : Sem.go _ e false [] s = res
  obtain ⟨as, rfl, ha⟩ := Sem.eq_ok_of hr (a := Handler.found pc) (s' := s.setVm vm') (acts' := []) (by simp [hfind _ _ _ _])
  exact ⟨rfl, ha⟩
theorem ez_caught {tb : Tables} {e : Env} {s target : State} {g : JFrame} {c : Code} {below : List Frame} {a : Addr} (h : At s g.method c below) {pc : Nat} {vm' : Vm}
    (hfind : ez_Finds e ((s.setTop g).pushFrame (.throwing a)) g a (.found pc) vm') (hrest : Steps tb e below ((s.setVm vm').setTop { g with pc := pc, stack := [.ref a] }) target) :
    Steps tb e below ((s.setTop g).pushFrame (.throwing a)) target := by
  obtain ⟨hgo, hw⟩ := h.throwing a
  refine Steps.head hgo hw ?_
  rw [stepThread_throwing (frames_entered h.top _), (ez_step_catch (s := (s.setTop g).pushFrame (.throwing a)) hfind).1]
  obtain ⟨g₀, hg⟩ := Option.isSome_iff_exists.mp h.top
  obtain ⟨r, hr⟩ := State.topJava?_eq_some.mp hg
  have hr' : (s.setVm vm').frames = .java g₀ :: r := hr
  have hsf : ∀ (u : State) (F G : List Frame), ((u.setFrames F).setVm vm').setFrames G = (u.setVm vm').setFrames G := fun u F G => by
    have h1 : (u.setFrames F).setVm vm' = (u.setVm vm').setFrames F := rfl
    rw [h1, State.setFrames_setFrames]
  rw [State.setTop_of_frames _ hr'] at hrest
  rw [hr, List.tail_cons, State.pushFrame, hsf, State.setTop_of_frames _ hr, hsf]
  exact hrest
section EZ13
variable {p : Program} {l : Launch} {e : Env} {R : Room} {s : State} {m : MethodId} {args : Array Value} {below : List Frame} {meth : Method} {c : Code} {T : State} {locs : List Loc} {cells slots : Nat}
/-- the search through a table all of whose entries cover the place: those that don't fit are passed -/
theorem ez_search {own : String} (hown : s.vm.findClass own = some m.cls) {a : Addr} {g : JFrame} (hg : g.method = m) {cell : Cell} {cE : ClassId} (hobj : cell.vm.isStatics = false) (hcls : cell.cls = cE) (hkE : ∃ k, s.vm.classes[cE]? = some k) (x : ExceptionTableEntry) (rest : List ExceptionTableEntry) (hx : covers x g.pc = true) (h0 : x.catchType ≠ 0) {name : String} (hlink : (Cond.classLink own x.catchType name).before args s = true) {cT : ClassId} (hcT : s.vm.findClass name = some cT) (hfit : s.vm.assignable cE cT = true) :
    ∀ (pre : List ExceptionTableEntry) (T : State), Stand p l e R s m args below meth c T locs cells slots → T.heap[a]? = some cell → (∀ y ∈ pre, covers y g.pc = true ∧ y.catchType ≠ 0 ∧ ∃ (nm : String) (cN : ClassId), (Cond.classLink own y.catchType nm).before args s = true ∧ s.vm.findClass nm = some cN ∧ s.vm.assignable cE cN = false) →
      ∃ vm' : Vm, Stand p l e R s m args below meth c (T.setVm vm') locs cells slots ∧ ∀ (S : State), S.vm = T.vm → S.heap = T.heap → ∀ (Q : Handler → Pre) (E : CtlPost) (d : Bool) (acts : List Action), wp (findHandler.go g a (pre ++ x :: rest)) Q E e d acts S ↔ Q (.found x.handlerPc) d acts (S.setVm vm') := by
  intro pre
  induction pre with
  | nil =>
    intro T X hcell _
    have hpl : e.platform.magicAccessors = ({} : Platform).magicAccessors := by rw [X.admits.platform]
    obtain ⟨c', hc', hcl⟩ := Cond.classLink_spec hown hlink e.platform hpl
    cases hcT.symm.trans hc'
    obtain ⟨dk, _, _, kt, hd, _, _, _, _, hkt, _, hopen⟩ := hcl.here
    have hcl₀ := X.warmed.classLinks hcl
    have hW' : s.WarmedH (T.vm.noted m.cls x.catchType (.cls cT)) := X.warmed.noted hd hopen (State.rightAt_cls hcl)
    have hal := X.warmed.alike
    obtain ⟨kt', hkt', -⟩ := hal.2.2 _ _ hkt
    obtain ⟨k1, hk1⟩ := hkE
    obtain ⟨k1', hk1', -⟩ := hal.2.2 _ _ hk1
    have hfit' : T.vm.assignable cell.cls cT = true := by rw [hal.assignable, hcls]; exact hfit
    refine ⟨_, X.noted hW', fun S hS1 hS2 Q E d acts => ?_⟩
    subst hg
    have := ez_go_yes (e := e) (s := S) (f := g) (a := a) (t := rest) (Q := Q) (E := E) (d := d) (acts := acts) hx h0 (by rw [hS1]; exact hcl₀) (by rw [hS2]; exact hcell) (VmData.ne_statics_of hobj) (by rw [hS1, hcls]; exact ⟨k1', hk1'⟩) (by rw [hS1]; exact ⟨kt', hkt'⟩) (by rw [hS1]; exact hfit')
    rw [hS1] at this
    exact this
  | cons y ys ih =>
    intro T X hcell hpre
    obtain ⟨hy, hy0, nm, cN, hyl, hyc, hyf⟩ := hpre y List.mem_cons_self
    have hpl : e.platform.magicAccessors = ({} : Platform).magicAccessors := by rw [X.admits.platform]
    obtain ⟨c', hc', hcl⟩ := Cond.classLink_spec hown hyl e.platform hpl
    cases hyc.symm.trans hc'
    obtain ⟨dk, _, _, kt, hd, _, _, _, _, hkt, _, hopen⟩ := hcl.here
    have hcl₀ := X.warmed.classLinks hcl
    have hW' : s.WarmedH (T.vm.noted m.cls y.catchType (.cls cN)) := X.warmed.noted hd hopen (State.rightAt_cls hcl)
    have hal := X.warmed.alike
    obtain ⟨kt', hkt', -⟩ := hal.2.2 _ _ hkt
    obtain ⟨k1, hk1⟩ := id hkE
    obtain ⟨k1', hk1', -⟩ := hal.2.2 _ _ hk1
    have hfit' : T.vm.assignable cell.cls cN = false := by rw [hal.assignable, hcls]; exact hyf
    obtain ⟨vm', X', hgo⟩ := ih (T.setVm (T.vm.noted m.cls y.catchType (.cls cN))) (X.noted hW') hcell (fun z hz => hpre z (List.mem_cons_of_mem _ hz))
    refine ⟨vm', X', fun S hS1 hS2 Q E d acts => ?_⟩
    subst hg
    have h1 := ez_go_no (e := e) (s := S) (f := g) (a := a) (t := ys ++ x :: rest) (Q := Q) (E := E) (d := d) (acts := acts) hy hy0 (by rw [hS1]; exact hcl₀) (by rw [hS2]; exact hcell) (VmData.ne_statics_of hobj) (by rw [hS1, hcls]; exact ⟨k1', hk1'⟩) (by rw [hS1]; exact ⟨kt', hkt'⟩) (by rw [hS1]; exact hfit')
    rw [List.cons_append, h1, hS1]
    exact hgo (S.setVm (T.vm.noted g.method.cls y.catchType (.cls cN))) rfl hS2 Q E d acts
/-- CAUGHT: the run goes on at the handler -/
theorem ez_catch (X : Stand p l e R s m args below meth c T locs cells slots) {own : String} (hown : s.vm.findClass own = some m.cls) {a : Addr} {g : JFrame} (hg : g.method = m) {cell : Cell} {cE : ClassId} (hcell : T.heap[a]? = some cell) (hobj : cell.vm.isStatics = false) (hcls : cell.cls = cE) (hkE : ∃ k, s.vm.classes[cE]? = some k) (pre : List ExceptionTableEntry) (x : ExceptionTableEntry) (rest : List ExceptionTableEntry) (hsplit : c.exceptionTable.toList = pre ++ x :: rest) (hx : covers x g.pc = true) (h0 : x.catchType ≠ 0) {name : String} (hlink : (Cond.classLink own x.catchType name).before args s = true) {cT : ClassId} (hcT : s.vm.findClass name = some cT) (hfit : s.vm.assignable cE cT = true)
    (hpre : ∀ y ∈ pre, covers y g.pc = true ∧ y.catchType ≠ 0 ∧ ∃ (nm : String) (cN : ClassId), (Cond.classLink own y.catchType nm).before args s = true ∧ s.vm.findClass nm = some cN ∧ s.vm.assignable cE cN = false) :
    ∃ vm', Stand p l e R s m args below meth c (T.setVm vm') locs cells slots ∧ ∀ target, Steps p.tables e below ((T.setVm vm').setTop { g with pc := x.handlerPc, stack := [.ref a] }) target → Steps p.tables e below ((T.setTop g).pushFrame (.throwing a)) target := by
  obtain ⟨vm', X', hgo⟩ := ez_search (p := p) (l := l) (e := e) (R := R) (meth := meth) (c := c) (below := below) (locs := locs) (cells := cells) (slots := slots) hown hg hobj hcls hkE x rest hx h0 hlink hcT hfit pre T X hcell hpre
  refine ⟨vm', X', fun target hrest => ?_⟩
  subst hg
  refine ez_caught X.here (fun Q E d acts => ?_) hrest
  rw [W.findHandler_eq (meth := meth) (code := c) (by rw [Stand.throwing_vm]; exact X.method') X.code, hsplit]
  exact hgo _ (Stand.throwing_vm _ _ _) (Stand.throwing_heap _ _ _) Q E d acts
end EZ13
