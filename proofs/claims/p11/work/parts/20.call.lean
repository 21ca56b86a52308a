/-! A CALL, HOWEVER IT ENDS -/
section EZ11
variable {p : Program} {l : Launch} {e : Env} {R : Room} {s : State} {m : MethodId} {sargs : Array Value} {below : List Frame} {meth : Method} {c : Code} {U : State} {locs : List Loc} {cells slots : Nat}
/-- the caller behind a call that left t: heap, book and tables are the callee's -/
abbrev ez_bk (U t : State) : State := (({ U with heap := t.heap, slotsUsed := t.slotsUsed } : State).setVm t.vm)
def ez_bkTo (g : JFrame) (V : State) (o : Outcome) : State := match o with
  | .returned v => V.setTop { g with pc := g.pc + 3, stack := v.toList ++ g.stack }
  | .threw x => (V.setTop g).pushFrame (.throwing x)
/-- only frames, heap, book and tables move in a call: so the state behind it is the caller's, with other frames -/
theorem ez_bk_eq {g : JFrame} {mk : MethodId} {a : Array Value} {t : State} {L : List Loc} {k n : Nat} (htop : U.topJava?.isSome) (hs : (U.calling g mk a).sameButNew ({ t with vm := (U.calling g mk a).vm } : State) L k n) : t = (ez_bk U t).setFrames t.frames := by
  have h1 : ({ t with vm := (U.calling g mk a).vm } : State) = { (U.calling g mk a).setFrames t.frames with heap := t.heap, slotsUsed := t.slotsUsed } := hs.1
  have h2 : (U.calling g mk a).setFrames t.frames = U.setFrames t.frames := by
    rw [State.calling_eq htop, State.setFrames_setFrames]
  rw [h2] at h1
  exact congrArg (fun z : State => z.setVm t.vm) h1
theorem ez_bk_stand (X : Stand p l e R s m sargs below meth c U locs cells slots) {g : JFrame} {mk : MethodId} {a : Array Value} {t : State} {L : List Loc} {k n : Nat} (hW : (U.calling g mk a).WarmedH t.vm) (hs : (U.calling g mk a).sameButNew ({ t with vm := (U.calling g mk a).vm } : State) L k n) : Stand p l e R s m sargs below meth c (ez_bk U t) (locs ++ L) (cells + k) (slots + n) := by
  have hWU : U.WarmedH t.vm := hW
  obtain ⟨g₀, hfr⟩ := X.frames_eq
  obtain ⟨z, hz, -⟩ := State.frames_cons hfr
  refine X.moved ((X.here.setHeapUsed t.heap t.slotsUsed).setVm hWU.alike) X.tail rfl rfl hWU ⟨?_, hs.2⟩
  show ({ U with heap := t.heap, slotsUsed := t.slotsUsed } : State) = { U.setFrames U.frames with heap := t.heap, slotsUsed := t.slotsUsed }
  rw [State.setFrames_self hz]
theorem ez_back {y : MethodName} {S : Spec} {P : Array Value → State → Prop} {Qf : Array Value → State → Outcome → State → Prop} (hM : MetFree l y S P (fun _ _ _ _ _ => True) Qf) {maxL : Nat} (hframes : S.room.frames + 1 ≤ R.frames) (hlocals : 8 + (maxL + 11) + S.room.locals ≤ R.locals)
    (X : Stand p l e R s m sargs below meth c U locs cells slots) {g : JFrame} {ig : Instr} {mk : MethodId} {a : Array Value} (hg : g.method = m) (hsize : g.locals.size = c.maxLocals) (hdg : decode c.code g.pc = .ok (ig, 3)) (hW : 2 * g.monitorRoom + (g.stack.map fun v => v.category).sum ≤ 8) (hn : U.methodNamed? y = some mk)
    {methY : Method} {cY : Code} (hmY : U.vm.method? mk = some methY) (hcY : methY.code = some cY) (hlY : cY.maxLocals = maxL) (hini : (Cond.initialized y.cls).before a U = true) (hpre : S.pre.before a U = true) (hcells : cells + S.room.cells ≤ R.cells) (hslots : slots + S.room.slots ≤ R.slots) (hP : P a (U.calling g mk a)) :
    ∃ (o : Outcome) (t : State), Qf a (U.calling g mk a) o t ∧ ∀ (L : List Loc) (k n : Nat), (U.calling g mk a).WarmedH t.vm → (U.calling g mk a).sameButNew ({ t with vm := (U.calling g mk a).vm } : State) L k n →
      Stand p l e R s m sargs below meth c (ez_bk U t) (locs ++ L) (cells + k) (slots + n) ∧ Steps p.tables e below (doInvoke e (U.setTop g) [] mk a).1 (ez_bkTo g (ez_bk U t) o) := by
  subst hg
  have hat := X.here
  obtain ⟨g₀, hfr⟩ := X.frames_eq
  obtain ⟨kY, hkY, -⟩ := className_of_methodNamed hn
  have hroom := X.room_calling (g := g) (R' := S.room) (m' := mk) (args' := a) hsize hmY hcY hframes (by rw [hlY]; omega) hcells hslots
  have happ := Spec.appliesLoose_calling (S := S) (e := e) (args := a) (g := g) hat hdg hn hkY (Cond.initialized_spec (findClass_of_methodNamed hn) hkY hini) hroom hpre
  have hft : (U.setTop g).frames = .java g :: below := by rw [State.frames_setTop' g hat.top, X.tail]
  obtain ⟨o, t, hsteps, -, hend, hq⟩ := Steps.callFree hM p X.admits X.cas X.clock (acts := []) (mid := [.java g]) hft happ hP trivial
  refine ⟨o, t, hq, fun L k n hW2 hs2 => ⟨ez_bk_stand X hW2 hs2, ?_⟩⟩
  have he := ez_bk_eq hat.top hs2
  rw [hft] at hend
  have hfb : (ez_bk U t).frames = .java g₀ :: below := hfr
  suffices hkey : t = ez_bkTo g (ez_bk U t) o by rw [← hkey]; exact hsteps
  cases o with
  | threw x =>
    have hf : t.frames = .throwing x :: .java g :: below := hend
    rw [hf] at he
    show t = ((ez_bk U t).setTop g).pushFrame (.throwing x)
    rw [State.pushFrame, State.setTop_of_frames _ hfb, State.setFrames_setFrames, State.frames_setFrames _ (State.cur_lt_of_frames hfb)]
    exact he
  | returned v =>
    obtain ⟨c₂, i₂, n₂, hc₂, hd₂, hf⟩ := hend
    have hWU : U.WarmedH t.vm := hW2
    have hcc : c₂ = c := by
      have hz : t.code? g.method = some c := by
        rw [State.code?_eq, hWU.alike.method?, ← State.code?_eq]
        exact hat.code
      exact Option.some.inj (hc₂.symm.trans hz)
    subst hcc
    cases hdg.symm.trans hd₂
    rw [hf] at he
    show t = (ez_bk U t).setTop { g with pc := g.pc + 3, stack := v.toList ++ g.stack }
    rw [State.setTop_of_frames _ hfb]
    exact he
end EZ11
