/-- what links a call of y (its tag k: the receiver's class; b: how many arguments, the receiver among them) -/
def ez_ck (own : String) (y : MethodName) (wc : Cond) (n : Nat) (noH : Prop) (ret : Option FieldType) (tbl : List Cond) (cl : List vw_C) (i : ClassFile.Instr) (b k : Nat) : Prop :=
  plainName y.cls = true ∧ (y.cls ≠ "java/lang/invoke/MethodHandle" ∧ y.cls ≠ "java/lang/invoke/VarHandle") ∧ Cond.initialized y.cls ∈ tbl ∧ wc ∈ tbl ∧ n ≤ 21 ∧ match i with
  | .invokevirtual idx => Cond.methodLink own idx y ∈ tbl ∧ Cond.instanceMethod y ∈ tbl ∧ Cond.selects y.cls y y ∈ tbl ∧ (0 < k ∧ k < 1000) ∧ (∃ (T : u_T) (N : Nat), cl[k - 1]? = some (y.cls, T, N)) ∧ (parseMethodDescriptor y.desc).map (fun d => d.parameters.length + 1) = some b
  | .invokespecial idx => (Cond.methodLink own idx y ∈ tbl ∨ ∃ host, Cond.methodLinkNest own idx y host ∈ tbl) ∧ y.name = "<init>" ∧ Cond.instanceMethod y ∈ tbl ∧ noH ∧ ret = none ∧ 0 < k ∧ (parseMethodDescriptor y.desc).map (fun d => d.parameters.length + 1) = some b
  | .invokestatic idx => (Cond.methodLink own idx y ∈ tbl ∨ ∃ host, Cond.methodLinkNest own idx y host ∈ tbl) ∧ Cond.static y ∈ tbl ∧ k = 0 ∧ (parseMethodDescriptor y.desc).map (fun d => d.parameters.length) = some b
  | _ => False
theorem ez_st_split {B : Nat} {ea : Nat → Nat} {st : List Value} {b : Nat} : st.map (ez_tr B ea) = ((st.take b).reverse.map (ez_tr B ea)).reverse ++ (st.drop b).map (ez_tr B ea) := by
  rw [← List.map_reverse, List.reverse_reverse, ← List.map_append, List.take_append_drop]
theorem ez_parms {y : MethodName} {f : MethodDescriptor → Nat} {b : Nat} (h : (parseMethodDescriptor y.desc).map f = some b) (sig : MethodDescriptor) (hs : parseMethodDescriptor y.desc = some sig) : f sig = b := by
  rw [hs] at h
  exact Option.some.inj h
section EZ16
variable {p : Program} {l : Launch} {e : Env} {R : Room} {s : State} {m : MethodId} {args : Array Value} {below : List Frame} {meth : Method} {c : Code} {T : State} {locs : List Loc} {cells slots : Nat} {cc : ByteArray} {pc B : Nat} {ea : Nat → Nat} {lsM : Array Slot} {own : String} {tbl : List Cond} {st : List Value}
variable {D : va_G} {cl : List vw_C} {nf : Nat → Nat} {ty : Nat → Nat → FieldType} {dA : Nat → ClassId} {h : ez_H} {y : MethodName} {bytes : ByteArray} {n b k : Nat} {ret : Option FieldType} {hh : List (Nat × Nat × Nat × Nat)} {i : ClassFile.Instr}
set_option maxHeartbeats 1000000 in
theorem ez_invoke (X : Stand p l e R s m args below meth c T locs cells slots) (hx : p.tables.exec = Jvm.exec) (hb : c.code = cc) (hown : s.vm.findClass own = some m.cls) (hts : ∀ w ∈ tbl, w.before args s = true) (hK : va_K D cl (ez_tys dA) s) (hR : ez_Rel D cl nf ty dA B h T.heap) (hck : ez_ck own y (ez_wc y bytes n ret hh) n (hh = []) ret tbl cl i b k) (hlen : (st.take b).reverse.length = b) (hrc : ez_rcv h k (st.take b).reverse) (hd : decode cc pc = .ok (i, 3)) :
    ∃ (mk : MethodId) (vm₁ : Vm), s.methodNamed? y = some mk ∧ Stand p l e R s m args below meth c (T.setVm vm₁) locs cells slots ∧ ∀ target, Steps p.tables e below (doInvoke e ((T.setVm vm₁).setTop (F0 m pc lsM ((st.drop b).map (ez_tr B ea)))) [] mk ((st.take b).reverse.map (ez_tr B ea)).toArray).1 target → Steps p.tables e below (T.setTop (F0 m pc lsM (st.map (ez_tr B ea)))) target := by
  obtain ⟨-, hy, hini, hwc, -, hck⟩ := hck
  obtain ⟨mk, methM, cM, hnamed, hmethM, hcM, -, -, -, -, -, hsigM⟩ := ez_wc_spec (hts _ hwc)
  have hsplit := ez_st_split (B := B) (ea := ea) (st := st) (b := b)
  have hd' : decode c.code pc = .ok (i, 3) := by rw [hb]; exact hd
  generalize hvs : (st.take b).reverse = vs at hlen hrc hsplit ⊢
  split at hck
  · rename_i idx
    obtain ⟨hl, hin, hse, ⟨hk0, hk1⟩, ⟨TT, N, hcl⟩, hpar⟩ := hck
    obtain ⟨k', rfl⟩ : ∃ k', k = k' + 1 := ⟨k - 1, by omega⟩
    have hrc' : ∃ q ps, vs = .ref q :: ps ∧ ez_t h q = k' + 1 := by
      unfold ez_rcv at hrc
      simp only at hrc
      split at hrc
      · exact ⟨_, _, rfl, hrc⟩
      · exact hrc.elim
    obtain ⟨q, ps, rfl, hq⟩ := hrc'
    obtain ⟨ws, j, hP, -, hj, -⟩ := hR.get (p := q) (by omega)
    rw [ez_ce_obj hq hk1] at hj
    obtain ⟨cellB, hcB, hoB, hclB⟩ := va_recv hK hP hcl hj
    obtain ⟨mk2, methM2, hnamed2, hmethM2, hstM, habM⟩ := Cond.instanceMethod_spec (hts _ hin)
    cases hnamed.symm.trans hnamed2
    cases hmethM.symm.trans hmethM2
    obtain ⟨c2, r2, m2, q1, q2, q3, q4, kP, hkP, hkPi⟩ := Cond.selects_spec (hts _ hse)
    cases hclB.symm.trans q1
    cases (State.methodFound?_of_named hnamed hy).symm.trans q2
    cases hnamed.symm.trans q3
    have hselP : selectMethod e.platform s.vm cellB.cls mk = .method mk := by rw [Launch.admits_selectMethod X.admits]; exact q4
    have hpl := ez_parms hpar _ hsigM
    obtain ⟨vm₁, X₁, hst⟩ := X.invokevirtual hx hown (hts _ hl) hnamed hmethM hstM hkP hkPi hy (a := B + q) (cell := cellB) hcB (fun z hz => by rw [hz] at hoB; cases hoB) hselP hmethM habM hkP hkPi (g := F0 m pc lsM (st.map (ez_tr B ea))) rfl (argsL := ps.map (ez_tr B ea)) (rest := (st.drop b).map (ez_tr B ea))
      (by rw [List.length_map]; simp at hlen; omega) (by rw [hsplit]; simp [ez_tr]) hd'
    exact ⟨mk, vm₁, hnamed, X₁, fun target ht => hst _ fun acts => by rw [doInvoke_state]; exact ht⟩
  · rename_i idx
    obtain ⟨hl, hy1, hin, hnoH, hret, hk0, hpar⟩ := hck
    obtain ⟨k', rfl⟩ : ∃ k', k = k' + 1 := ⟨k - 1, by omega⟩
    have hrc' : ∃ q ps, vs = .ref q :: ps := by
      unfold ez_rcv at hrc
      simp only at hrc
      split at hrc
      · exact ⟨_, _, rfl⟩
      · exact hrc.elim
    obtain ⟨q, ps, rfl⟩ := hrc'
    subst hnoH
    subst hret
    have hpM : e.platform.magicAccessors = ({} : Platform).magicAccessors := by rw [X.admits.platform]
    have hlenP : ∀ sig, parseMethodDescriptor y.desc = some sig → (ps.map (ez_tr B ea)).length = sig.parameters.length := fun sig hs => by
      have := ez_parms hpar _ hs
      rw [List.length_map]
      simp at hlen
      omega
    rcases hl with hl | ⟨host, hl⟩
    · obtain ⟨mk2, methM2, cM2, kP, vm₁, hnamed2, -, -, -, -, -, -, -, hW₁, hst⟩ := Steps.initColdArgs (e := e) X.here hx X.warmed hpM hown hy1 hy (hts _ hl) (hts _ hin) (hts _ hwc) (f := F0 m pc lsM (st.map (ez_tr B ea))) rfl hlenP (rest := (st.drop b).map (ez_tr B ea)) (a := B + q) (by rw [hsplit]; simp [ez_tr]) hd'
      cases hnamed.symm.trans hnamed2
      exact ⟨mk, vm₁, hnamed, X.noted hW₁, fun target ht => hst _ fun acts => by rw [doInvoke_state]; exact ht⟩
    · obtain ⟨mk2, methM2, cM2, kP, vm₁, hnamed2, -, -, -, -, -, -, -, hW₁, hst⟩ := Steps.initColdArgsNest (e := e) X.here hx X.warmed hpM hown hy1 hy (hts _ hl) (hts _ hin) (hts _ hwc) (f := F0 m pc lsM (st.map (ez_tr B ea))) rfl hlenP (rest := (st.drop b).map (ez_tr B ea)) (a := B + q) (by rw [hsplit]; simp [ez_tr]) hd'
      cases hnamed.symm.trans hnamed2
      exact ⟨mk, vm₁, hnamed, X.noted hW₁, fun target ht => hst _ fun acts => by rw [doInvoke_state]; exact ht⟩
  · rename_i idx
    obtain ⟨hl, hsta, rfl, hpar⟩ := hck
    have hstatic : methM.isStatic = true := Cond.static_spec hnamed hmethM (hts _ hsta)
    obtain ⟨kP, hkP, -⟩ := className_of_methodNamed hnamed
    have hinitP : kP.init = .initialized := Cond.initialized_spec (findClass_of_methodNamed hnamed) hkP (hts _ hini)
    have hpl := ez_parms hpar _ hsigM
    rcases hl with hl | ⟨host, hl⟩
    · obtain ⟨vm₁, X₁, hst⟩ := X.invokestatic hx hown (hts _ hl) hnamed hmethM hstatic hkP hinitP hy (g := F0 m pc lsM (st.map (ez_tr B ea))) rfl (argsL := vs.map (ez_tr B ea)) (rest := (st.drop b).map (ez_tr B ea)) (by rw [List.length_map]; omega) (by rw [hsplit]) hd'
      exact ⟨mk, vm₁, hnamed, X₁, fun target ht => hst _ fun acts => by rw [doInvoke_state]; exact ht⟩
    · obtain ⟨vm₁, X₁, hst⟩ := X.invokestaticNest hx hown (hts _ hl) hnamed hmethM hstatic hkP hinitP hy (g := F0 m pc lsM (st.map (ez_tr B ea))) rfl (argsL := vs.map (ez_tr B ea)) (rest := (st.drop b).map (ez_tr B ea)) (by rw [List.length_map]; omega) (by rw [hsplit]) hd'
      exact ⟨mk, vm₁, hnamed, X₁, fun target ht => hst _ fun acts => by rw [doInvoke_state]; exact ht⟩
  · exact hck.elim
end EZ16
