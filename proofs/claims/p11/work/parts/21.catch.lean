/-! AN EXCEPTION IS CAUGHT, also where a class of the table is looked up for the first time -/
/-- one entry that covers the place: its class is looked up (the tables grow warmer by that), then the object fits or it doesn't -/
theorem ez_go_link {e : Env} {d : Bool} {acts : List Action} {s : State} {f : JFrame} {a : Addr} {Q : Handler → Pre} {E : CtlPost} {x : ExceptionTableEntry} {t : List ExceptionTableEntry} {c : ClassId} {cell : Cell} (hx : covers x f.pc = true) (h0 : x.catchType ≠ 0) (hl : s.vm.ClassLinks e.platform f.method.cls x.catchType c) (hcell : s.heap[a]? = some cell) (hobj : cell.vm.isStatics = false)
    (hk : ∃ k, s.vm.classes[cell.cls]? = some k) (hc : ∃ k, s.vm.classes[c]? = some k) {b : Bool} (hfit : s.vm.assignable cell.cls c = b) :
    wp (findHandler.go f a (x :: t)) Q E e d acts s ↔ (if b = true then Q (.found x.handlerPc) d acts (s.setVm (s.vm.noted f.method.cls x.catchType (.cls c))) else wp (findHandler.go f a t) Q E e d acts (s.setVm (s.vm.noted f.method.cls x.catchType (.cls c)))) := by
  have hal : s.vm.Alike (s.vm.noted f.method.cls x.catchType (.cls c)) := Vm.Alike.noted (Vm.Alike.refl s.vm) _ _ _
  have warm : ∀ i : ClassId, (∃ k, s.vm.classes[i]? = some k) → ∃ k, (s.vm.noted f.method.cls x.catchType (.cls c)).classes[i]? = some k := fun i hi => by
    obtain ⟨k, hk⟩ := hi
    obtain ⟨k', hk', -⟩ := hal.2.2 _ _ hk
    exact ⟨k', hk'⟩
  obtain ⟨k1, hk1⟩ := warm _ hk
  obtain ⟨k2, hk2⟩ := warm _ hc
  have hf := (hal.assignable cell.cls c).trans hfit
  have hst := VmData.ne_statics_of hobj
  obtain ⟨r1, r2⟩ := (resolveClass_links e.toSetting hl).op (op := VmOp.resolveClass f.method.cls x.catchType) rfl
  have hx' : (decide (x.startPc ≤ f.pc) && decide (f.pc < x.endPc)) = true := hx
  cases b <;> simp [findHandler.go, hx', h0, r1, r2, hcell, hst, hk1, hk2, hf, VmOp.dirties, VmOp.acts]
/-- the step from the note 'is thrown' to the handler that the search finds, with the tables that it leaves -/
theorem ez_caught {tb : Tables} {e : Env} {s target : State} {g : JFrame} {c : Code} {below : List Frame} {a : Addr} (h : At s g.method c below) (htail : s.frames.tail = below) {pc : Nat} {vm' : Vm}
    (hfind : ∀ (Q : Handler → Pre) (E : CtlPost) (d : Bool) (acts : List Action), wp (findHandler g a) Q E e d acts ((s.setTop g).pushFrame (.throwing a)) ↔ Q (.found pc) d acts (((s.setTop g).pushFrame (.throwing a)).setVm vm'))
    (hrest : Steps tb e below ((s.setVm vm').setTop { g with pc := pc, stack := [.ref a] }) target) : Steps tb e below ((s.setTop g).pushFrame (.throwing a)) target := by
  obtain ⟨g₀, hg₀⟩ := Option.isSome_iff_exists.mp h.top
  obtain ⟨r, hr⟩ := State.topJava?_eq_some.mp hg₀
  have hrb : r = below := by rw [hr] at htail; exact htail
  subst hrb
  have hS : (s.setTop g).pushFrame (.throwing a) = s.setFrames (.throwing a :: .java g :: r) := by
    rw [State.pushFrame, State.setTop_of_frames _ hr, State.setFrames_setFrames, State.frames_setFrames _ (State.cur_lt_of_frames hr)]
  have hT : (s.setVm vm').setTop { g with pc := pc, stack := [.ref a] } = (((s.setTop g).pushFrame (.throwing a)).setVm vm').setFrames (.java { g with pc := pc, stack := [.ref a] } :: r) := by
    rw [State.setTop_of_frames _ (show (s.setVm vm').frames = .java g₀ :: r from hr), hS]
    have : (s.setFrames (.throwing a :: .java g :: r)).setVm vm' = (s.setVm vm').setFrames (.throwing a :: .java g :: r) := rfl
    rw [this, State.setFrames_setFrames]
  obtain ⟨hgo, hw⟩ := h.throwing a
  refine Steps.head hgo hw ?_
  have hfr : ((s.setTop g).pushFrame (.throwing a)).frames = .throwing a :: .java g :: r := by rw [hS, State.frames_setFrames _ (State.cur_lt_of_frames hr)]
  have hstep : (stepThread tb e ((s.setTop g).pushFrame (.throwing a))).1 = (((s.setTop g).pushFrame (.throwing a)).setVm vm').setFrames (.java { g with pc := pc, stack := [.ref a] } :: r) := by
    rw [stepThread_throwing hfr]
    simp only [stepThrowing, searchFrame, vmDo]
    generalize hq : Sem.go _ e false [] ((s.setTop g).pushFrame (.throwing a)) = res
    obtain ⟨_, rfl, -⟩ := Sem.eq_ok_of hq (a := Handler.found pc) (s' := ((s.setTop g).pushFrame (.throwing a)).setVm vm') (acts' := []) (by simp [hfind])
    rfl
  rw [hstep, ← hT]
  exact hrest
section EZ13
variable {p : Program} {l : Launch} {e : Env} {R : Room} {s : State} {m : MethodId} {args : Array Value} {below : List Frame} {meth : Method} {c : Code} {T : State} {locs : List Loc} {cells slots : Nat}
/-- the search through a table all of whose entries cover the place: those that don't fit are passed -/
theorem ez_search {own : String} (hown : s.vm.findClass own = some m.cls) {a : Addr} {g : JFrame} (hg : g.method = m) {cell : Cell} {cE : ClassId} (hobj : cell.vm.isStatics = false) (hcls : cell.cls = cE) (hkE : ∃ k, s.vm.classes[cE]? = some k) (x : ExceptionTableEntry) (rest : List ExceptionTableEntry) (hx : covers x g.pc = true) (h0 : x.catchType ≠ 0) {name : String} (hlink : (Cond.classLink own x.catchType name).before args s = true) {cT : ClassId} (hcT : s.vm.findClass name = some cT) (hfit : s.vm.assignable cE cT = true) :
    ∀ (pre : List ExceptionTableEntry) (T : State), Stand p l e R s m args below meth c T locs cells slots → T.heap[a]? = some cell → (∀ y ∈ pre, covers y g.pc = true ∧ y.catchType ≠ 0 ∧ ∃ (nm : String) (cN : ClassId), (Cond.classLink own y.catchType nm).before args s = true ∧ s.vm.findClass nm = some cN ∧ s.vm.assignable cE cN = false) →
      ∃ vm' : Vm, Stand p l e R s m args below meth c (T.setVm vm') locs cells slots ∧ ∀ (S : State), S.vm = T.vm → S.heap = T.heap → ∀ (Q : Handler → Pre) (E : CtlPost) (d : Bool) (acts : List Action), wp (findHandler.go g a (pre ++ x :: rest)) Q E e d acts S ↔ Q (.found x.handlerPc) d acts (S.setVm vm') := by
  intro pre
  induction pre with
  | nil =>
    intro T X hcell _
    have hpl : e.platform.magicAccessors = ({} : Platform).magicAccessors := by rw [X.admits.platform]
    obtain ⟨c', hc', hcl⟩ := Cond.classLink_spec hown hlink e.platform hpl
    cases hcT.symm.trans hc'
    obtain ⟨dk, _, _, kt, hd, _, _, _, _, hkt, _, hopen⟩ := hcl.here
    have hcl₀ := X.warmed.classLinks hcl
    have hW' : s.WarmedH (T.vm.noted m.cls x.catchType (.cls cT)) := X.warmed.noted hd hopen (State.rightAt_cls hcl)
    have hal := X.warmed.alike
    obtain ⟨kt', hkt', -⟩ := hal.2.2 _ _ hkt
    obtain ⟨k1, hk1⟩ := hkE
    obtain ⟨k1', hk1', -⟩ := hal.2.2 _ _ hk1
    have hfit' : T.vm.assignable cell.cls cT = true := by rw [hal.assignable, hcls]; exact hfit
    refine ⟨_, X.noted hW', fun S hS1 hS2 Q E d acts => ?_⟩
    subst hg
    have := ez_go_link (e := e) (s := S) (f := g) (a := a) (t := rest) (Q := Q) (E := E) (d := d) (acts := acts) (b := true) hx h0 (by rw [hS1]; exact hcl₀) (by rw [hS2]; exact hcell) hobj (by rw [hS1, hcls]; exact ⟨k1', hk1'⟩) (by rw [hS1]; exact ⟨kt', hkt'⟩) (by rw [hS1]; exact hfit')
    rw [if_pos rfl, hS1] at this
    exact this
  | cons y ys ih =>
    intro T X hcell hpre
    obtain ⟨hy, hy0, nm, cN, hyl, hyc, hyf⟩ := hpre y List.mem_cons_self
    have hpl : e.platform.magicAccessors = ({} : Platform).magicAccessors := by rw [X.admits.platform]
    obtain ⟨c', hc', hcl⟩ := Cond.classLink_spec hown hyl e.platform hpl
    cases hyc.symm.trans hc'
    obtain ⟨dk, _, _, kt, hd, _, _, _, _, hkt, _, hopen⟩ := hcl.here
    have hcl₀ := X.warmed.classLinks hcl
    have hW' : s.WarmedH (T.vm.noted m.cls y.catchType (.cls cN)) := X.warmed.noted hd hopen (State.rightAt_cls hcl)
    have hal := X.warmed.alike
    obtain ⟨kt', hkt', -⟩ := hal.2.2 _ _ hkt
    obtain ⟨k1, hk1⟩ := id hkE
    obtain ⟨k1', hk1', -⟩ := hal.2.2 _ _ hk1
    have hfit' : T.vm.assignable cell.cls cN = false := by rw [hal.assignable, hcls]; exact hyf
    obtain ⟨vm', X', hgo⟩ := ih (T.setVm (T.vm.noted m.cls y.catchType (.cls cN))) (X.noted hW') hcell (fun z hz => hpre z (List.mem_cons_of_mem _ hz))
    refine ⟨vm', X', fun S hS1 hS2 Q E d acts => ?_⟩
    subst hg
    have h1 := ez_go_link (e := e) (s := S) (f := g) (a := a) (t := ys ++ x :: rest) (Q := Q) (E := E) (d := d) (acts := acts) (b := false) hy hy0 (by rw [hS1]; exact hcl₀) (by rw [hS2]; exact hcell) hobj (by rw [hS1, hcls]; exact ⟨k1', hk1'⟩) (by rw [hS1]; exact ⟨kt', hkt'⟩) (by rw [hS1]; exact hfit')
    rw [List.cons_append, h1, if_neg (by decide), hS1]
    exact hgo (S.setVm (T.vm.noted g.method.cls y.catchType (.cls cN))) rfl hS2 Q E d acts
/-- CAUGHT: the run goes on at the handler -/
theorem ez_catch (X : Stand p l e R s m args below meth c T locs cells slots) {own : String} (hown : s.vm.findClass own = some m.cls) {a : Addr} {g : JFrame} (hg : g.method = m) {cell : Cell} {cE : ClassId} (hcell : T.heap[a]? = some cell) (hobj : cell.vm.isStatics = false) (hcls : cell.cls = cE) (hkE : ∃ k, s.vm.classes[cE]? = some k) (pre : List ExceptionTableEntry) (x : ExceptionTableEntry) (rest : List ExceptionTableEntry) (hsplit : c.exceptionTable.toList = pre ++ x :: rest) (hx : covers x g.pc = true) (h0 : x.catchType ≠ 0) {name : String} (hlink : (Cond.classLink own x.catchType name).before args s = true) {cT : ClassId} (hcT : s.vm.findClass name = some cT) (hfit : s.vm.assignable cE cT = true)
    (hpre : ∀ y ∈ pre, covers y g.pc = true ∧ y.catchType ≠ 0 ∧ ∃ (nm : String) (cN : ClassId), (Cond.classLink own y.catchType nm).before args s = true ∧ s.vm.findClass nm = some cN ∧ s.vm.assignable cE cN = false) :
    ∃ vm', Stand p l e R s m args below meth c (T.setVm vm') locs cells slots ∧ ∀ target, Steps p.tables e below ((T.setVm vm').setTop { g with pc := x.handlerPc, stack := [.ref a] }) target → Steps p.tables e below ((T.setTop g).pushFrame (.throwing a)) target := by
  obtain ⟨vm', X', hgo⟩ := ez_search (p := p) (l := l) (e := e) (R := R) (meth := meth) (c := c) (below := below) (locs := locs) (cells := cells) (slots := slots) hown hg hobj hcls hkE x rest hx h0 hlink hcT hfit pre T X hcell hpre
  refine ⟨vm', X', fun target hrest => ?_⟩
  subst hg
  refine ez_caught X.here X.tail (fun Q E d acts => ?_) hrest
  rw [W.findHandler_eq (meth := meth) (code := c) (by rw [Stand.throwing_vm]; exact X.method') X.code, hsplit]
  exact hgo _ (Stand.throwing_vm _ _ _) (Stand.throwing_heap _ _ _) Q E d acts
end EZ13
