/-! A METHOD'S CONTRACT OUT OF ITS WALK -/
/-- the code word of a method: without handlers, or with them -/
def ez_wc (y : MethodName) (bytes : ByteArray) (n : Nat) (ret : Option FieldType) (hh : List (Nat × Nat × Nat × Nat)) : Cond := match hh with
  | [] => .code y bytes n ret
  | q :: r => .codeWith y bytes n ret (q :: r)
theorem ez_wc_spec {y : MethodName} {bytes : ByteArray} {n : Nat} {ret : Option FieldType} {hh : List (Nat × Nat × Nat × Nat)} {args : Array Value} {U : State} (h : (ez_wc y bytes n ret hh).before args U = true) :
    ∃ (mk : MethodId) (meth : Method) (c : Code), U.methodNamed? y = some mk ∧ U.vm.method? mk = some meth ∧ meth.code = some c ∧ c.code = bytes ∧ c.maxLocals = n ∧ c.exceptionTable.toList.map (fun h => (h.startPc, h.endPc, h.handlerPc, h.catchType)) = hh ∧ meth.sig.returnType = ret ∧ meth.locks = false ∧ parseMethodDescriptor y.desc = some meth.sig := by
  cases hh with
  | nil =>
    obtain ⟨mk, hn⟩ := Cond.code_named h
    obtain ⟨meth, c, h1, h2, h3, h4, h5, h6, h7, h8⟩ := Cond.code_spec hn h
    refine ⟨mk, meth, c, hn, h1, h2, h3, h4, ?_, h5, h6, h8⟩
    have : c.exceptionTable.toList = [] := by simpa [Array.isEmpty] using h7
    rw [this]
    rfl
  | cons q r => exact Cond.codeWith_spec h
theorem ez_lay_len (B : Nat) (ea : Nat → Nat) : ∀ vs : List Value, (lg_sl (vs.map (ez_tr B ea))).length = (ez_lay vs).length
  | [] => rfl
  | v :: r => by
    have ih := ez_lay_len B ea r
    unfold lg_sl at ih ⊢
    rw [List.map_cons, List.flatMap_cons, List.length_append, ih]
    cases v <;> simp [ez_lay, ez_tr, Value.category] <;> omega
theorem ez_lay_mem (B : Nat) (ea : Nat → Nat) : ∀ (vs : List Value) (i j : Nat) (v : Value), (ez_lay vs)[j]? = some (some v) → (i + j, ez_tr B ea v) ∈ lv_args i (vs.map (ez_tr B ea))
  | [], i, j, v, h => by cases h
  | w :: r, i, j, v, h => by
    have two : w.category = 2 → ez_lay (w :: r) = some w :: none :: ez_lay r := by
      cases w <;> intro h <;> first | rfl | cases h
    have one : ¬ w.category = 2 → ez_lay (w :: r) = some w :: ez_lay r := by
      cases w <;> intro h <;> first | rfl | exact absurd rfl h
    rw [List.map_cons]
    show _ ∈ (i, ez_tr B ea w) :: lv_args (if (ez_tr B ea w).category = 2 then i + 2 else i + 1) (r.map (ez_tr B ea))
    rw [ez_tr_cat]
    by_cases hw : w.category = 2
    · rw [two hw] at h
      rw [if_pos hw]
      match j, h with
      | 0, h => cases h; exact List.mem_cons_self
      | 1, h => cases h
      | j + 2, h =>
        have := ez_lay_mem B ea r (i + 2) j v h
        rw [show i + 2 + j = i + (j + 2) by omega] at this
        exact List.mem_cons_of_mem _ this
    · rw [one hw] at h
      rw [if_neg hw]
      match j, h with
      | 0, h => cases h; exact List.mem_cons_self
      | j + 1, h =>
        have := ez_lay_mem B ea r (i + 1) j v h
        rw [show i + 1 + j = i + (j + 1) by omega] at this
        exact List.mem_cons_of_mem _ this
/-- at a method's entry -/
theorem ez_lv_entry {B : Nat} {ea : Nat → Nat} {vs : List Value} {n : Nat} (hn : (ez_lay vs).length ≤ n) : lv_has ((lg_sl (vs.map (ez_tr B ea)) ++ List.replicate (n - (lg_sl (vs.map (ez_tr B ea))).length) Slot.unset).toArray) n (ez_lv B ea (ez_args n vs)) := by
  refine ez_lv_sub (lv_entry (vs.map (ez_tr B ea)) (n := n) (by rw [ez_lay_len]; exact hn)) fun q hq => ?_
  obtain ⟨v, h1, h2⟩ := ez_lv_mem.mp hq
  unfold ez_args at h1
  rw [List.getD_eq_getElem?_getD] at h1
  by_cases hl : q.1 < (ez_lay vs).length
  · rw [List.getElem?_append_left hl] at h1
    cases hq1 : (ez_lay vs)[q.1]? with
    | none => rw [hq1] at h1; cases h1
    | some o =>
      rw [hq1] at h1
      have : o = some v := h1
      subst this
      have := ez_lay_mem B ea vs 0 q.1 v hq1
      rw [Nat.zero_add, ← h2] at this
      exact this
  · rw [List.getElem?_append_right (by omega)] at h1
    by_cases hr : q.1 - (ez_lay vs).length < n - (ez_lay vs).length
    · rw [List.getElem?_replicate, if_pos hr] at h1
      cases h1
    · rw [List.getElem?_replicate, if_neg hr] at h1
      cases h1
section EZS
variable (l : Launch) (D : va_G) (cl : List vw_C) (nf : Nat → Nat) (ty : Nat → Nat → FieldType) (dA : Nat → ClassId) (B : Nat) (ea : Nat → Nat) (exn : Nat → String) (E : Nat → Nat × (Nat → Int32)) (sta : Nat → String × String × String) (nm : Nat → MethodName) (bytes : Nat → ByteArray) (ml : Nat → Nat) (ret : Nat → Option FieldType) (hh : Nat → List (Nat × Nat × Nat × Nat)) (tbl : List Cond) (strs : List (String × Nat × String))
/-- what stands around: the classes, the arrays outside, what a throw reads -/
def ez_Sur (s : State) : Prop :=
  va_K D cl (ez_tys dA) s ∧ (∀ j, va_T .int (ea j) (E j).1 (fun i => .int ((E j).2 i)) (ez_A B) s s.heap) ∧ (∀ j, 0 < j → va_Z (sta j).1 (sta j).2.1 (sta j).2.2 (.ref (ea j)) (ez_A B) s s.heap) ∧ ez_Th B s ∧ ∀ w ∈ strs, ∃ q : Nat, vk_R w.1 w.2.1 w.2.2 q s
/-- the method that runs -/
def ez_Ctx (mi : Nat) (p : Program) (s : State) (m : MethodId) (args : Array Value) (meth : Method) (c : Code) : Prop :=
  p.tables.exec = Jvm.exec ∧ c.code = bytes mi ∧ meth.sig.returnType = ret mi ∧ c.maxLocals = ml mi ∧ s.vm.findClass (nm mi).cls = some m.cls ∧ (∀ w ∈ tbl, w.before args s = true) ∧ meth.locks = false ∧ meth.name = (nm mi).name ∧ c.exceptionTable.toList.map (fun h => (h.startPc, h.endPc, h.handlerPc, h.catchType)) = hh mi
/-- THE MACHINE DOES WHAT THE PURE ONE MUST -/
def ez_Snd : ez_X := fun d mi pc ls st h Q => ∀ (p : Program) (e : Env) (R : Room) (s : State) (m : MethodId) (args : Array Value) (below : List Frame) (meth : Method) (c : Code) (H : Heap) (locs : List Loc) (cells slots : Nat) (lsM : Array Slot) (n0 u0 : Nat),
  ez_Ctx nm bytes ml ret hh tbl mi p s m args meth c → ez_Sur D cl dA B ea E sta strs s → ez_Rel D cl nf ty dA B h H → va_S (ez_A B) s.heap H locs → s.heap.size = B + 1 + n0 → n0 + cells = ez_n h → u0 + slots = ez_u h → ez_n h ≤ ez_MC → ez_u h ≤ ez_MS → ez_MC ≤ n0 + R.cells → ez_MS ≤ u0 + R.slots → d + 6 ≤ R.frames → 40 * d + 100 ≤ R.locals → lv_has lsM (ml mi) (ez_lv B ea ls) →
  W p l e R s m args below meth c H locs cells slots (ez_Fin D cl nf ty dA B ea exn below s n0 u0 Q) (F0 m pc lsM (st.map (ez_tr B ea)))
theorem ez_Snd_mono : ez_Mono (ez_Snd l D cl nf ty dA B ea exn E sta nm bytes ml ret hh tbl strs) := by
  intro d mi pc ls st h Q Q' hQ H p e R s m args below meth c H0 locs cells slots lsM n0 u0 a1 a2 a3 a4 a5 a6 a7 a8 a9 a10 a11 a12 a13 a14
  refine ez_W_mono ?_ (H p e R s m args below meth c H0 locs cells slots lsM n0 u0 a1 a2 a3 a4 a5 a6 a7 a8 a9 a10 a11 a12 a13 a14)
  rintro t ⟨o, h1, h2, r, h', h3, h4⟩
  exact ⟨o, h1, h2, r, h', hQ r h' h3, h4⟩
/-- what stands around stays, where nothing outside is written and the tables grow warmer -/
theorem ez_Sur.there {s U : State} (h : ez_Sur D cl dA B ea E sta strs s) (hW : s.WarmedH U.vm) (hq : ∀ a : Nat, a < s.heap.size → ¬ ez_A B a → U.heap[a]? = s.heap[a]?) : ez_Sur D cl dA B ea E sta strs U := by
  obtain ⟨h1, h2, h3, h4, h5⟩ := h
  exact ⟨va_K.moved hW.alike h1, fun j => ((h2 j).kept hq).moved hW.alike, fun j hj => ((h3 j hj).kept hq).moved hW.alike, h4.there hW hq, fun w hw => by
    obtain ⟨q, hq⟩ := h5 w hw
    exact ⟨q, hq.warm hW⟩⟩
set_option maxHeartbeats 1000000 in
theorem ez_met {d a : Nat} {vs : List Value} {h : ez_H} {Q : ez_Q} (hpl : plainName (nm a).cls = true) (hfit : (ez_lay vs).length ≤ ml a) (hn1 : ez_n h ≤ ez_MC) (hu1 : ez_u h ≤ ez_MS) (H : ez_Snd l D cl nf ty dA B ea exn E sta nm bytes ml ret hh tbl strs d a 0 (ez_args (ml a) vs) [] h Q) :
    MetFree l (nm a) (headSpec (ez_wc (nm a) (bytes a) (ml a) (ret a) (hh a) :: tbl) { frames := d + 6, cells := ez_MC - ez_n h, slots := ez_MS - ez_u h, locals := 40 * d + 100 }) (fun args s => args = (vs.map (ez_tr B ea)).toArray ∧ ez_Rel D cl nf ty dA B h s.heap ∧ ez_Sur D cl dA B ea E sta strs s) (fun _ _ _ _ _ => True) (fun _ s o t => ez_End D cl nf ty dA B ea exn s (ez_n h) (ez_u h) Q o t) := by
  refine MetFree.of_bodyS (code := bytes a) (maxLocals := ml a) (ret := ret a) hpl ?_ ?_
  · intro args s m hp hn
    obtain ⟨mk, meth, c, g1, g2, g3, g4, g5, -, g6, g7, -⟩ := ez_wc_spec (atoms_spec (ws := _ :: tbl) hp _ List.mem_cons_self)
    cases hn.symm.trans g1
    exact ⟨meth, c, g2, g3, g4, g5, g6, g7⟩
  · intro p e s m args below meth c s₁ Bd hml hP _
    obtain ⟨rfl, hR, hSur⟩ := hP
    have hts := atoms_spec (ws := ez_wc (nm a) (bytes a) (ml a) (ret a) (hh a) :: tbl) Bd.pre
    obtain ⟨mk, methK, cK, g1, g2, g3, g4, g5, g6, g7, g8, -⟩ := ez_wc_spec (hts _ List.mem_cons_self)
    cases Bd.named.symm.trans g1
    cases Bd.method.symm.trans g2
    have X₀ := Stand.of_body Bd
    cases X₀.code.symm.trans g3
    have hh0 : s₁.heap = s.heap := by rw [Bd.state]; rfl
    have K := H p e (headSpec (ez_wc (nm a) (bytes a) (ml a) (ret a) (hh a) :: tbl) { frames := d + 6, cells := ez_MC - ez_n h, slots := ez_MS - ez_u h, locals := 40 * d + 100 }).room s m (vs.map (ez_tr B ea)).toArray below meth c s.heap [] 0 0 _ (ez_n h) (ez_u h)
      ⟨Bd.exec, g4, g7, g5, findClass_of_methodNamed Bd.named, fun w hw => hts w (List.mem_cons_of_mem _ hw), g8, (name_of_methodNamed Bd.named Bd.method).1, g6⟩ hSur hR va_S.rf hR.1 rfl rfl hn1 hu1 (by show ez_MC ≤ ez_n h + (ez_MC - ez_n h); omega) (by show ez_MS ≤ ez_u h + (ez_MS - ez_u h); omega) (Nat.le_refl _) (Nat.le_refl _) (ez_lv_entry hfit)
    obtain ⟨t, a1, o, b1, b2, b3⟩ := K s₁ hh0 X₀
    refine ⟨t, o, ?_, b1, b2, b3⟩
    rw [lg_entry_eq]
    exact a1
end EZS
