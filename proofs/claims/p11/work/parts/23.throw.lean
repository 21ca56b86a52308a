/-! throw new E("text"): the library's law 'ctorThrowS', used on the invocation rebased just ahead of 'new': so every cell that was there is there as it was -/
def ez_up3 : List String := ["java/lang/RuntimeException", "java/lang/Exception"]
/-- what a word of the tables needs to be carried to another state -/
def ez_good (tbl : List Cond) : Prop := ∀ w ∈ tbl, ∀ (args a' : Array Value) (s U : State), s.WarmedH U.vm → w.before args s = true → w.before a' U = true
theorem ez_isRef {args : Array Value} {U : State} {C n d : String} {A : Nat → Prop} (h : va_Zq C n d A U U.heap) : (Cond.isRef (.static C n d)).before args U = true := by
  have key : ∀ v : Value, va_Z C n d v A U U.heap → (Term.static C n d).eval args U none [] U = some v := by
    rintro v ⟨cf, kf, fi, f, a, cell, h1, h2, h3, h4, h5, h6, h7, h8⟩
    simp [Term.eval, State.fieldNamed?, h1, h2, h4, h5, h6, h7]
  rcases h with h | ⟨t, h⟩
  · simp [Cond.before, Cond.holds, Cond.value, key _ h]
  · simp [Cond.before, Cond.holds, Cond.value, key _ h]
/-- a static field lies in a cell outside 'A' -/
def ez_Ls (C n d : String) (A : Nat → Prop) (U : State) (H : Heap) : Prop := ∃ (c : ClassId) (k : Class) (i : Nat) (f : Field) (a : Nat) (cell : Cell), U.vm.findClass C = some c ∧ U.fieldFound? C n d = some (c, k, i, f) ∧ f.isStatic = true ∧ k.statics = some a ∧ H[a]? = some cell ∧ cell.vm.isStatics = true ∧ cell.cls = c ∧ f.slot < cell.slots.size ∧ k.staticTypes[f.slot]? = some f.type ∧ ¬ A a
theorem ez_Ls.there {C n d : String} {A : Nat → Prop} {s U : State} (h : ez_Ls C n d A s s.heap) (hW : s.WarmedH U.vm) (hq : ∀ a : Nat, a < s.heap.size → ¬ A a → U.heap[a]? = s.heap[a]?) : ez_Ls C n d A U U.heap := by
  obtain ⟨c, k, i, f, a, cell, h1, h2, h3, h4, h5, h6, h7, h8, h9, h10⟩ := h
  obtain ⟨k', hi', hek⟩ := State.fieldFound?_setVm hW.alike h2
  exact ⟨c, k', i, f, a, cell, by rw [hW.alike.findClass]; exact h1, hi', h3, by rw [hek]; exact h4, by rw [hq a (Array.getElem?_eq_some_iff.mp h5).1 h10]; exact h5, h6, h7, h8, by rw [hek]; exact h9, h10⟩
theorem ez_Ls.word {args : Array Value} {C n d : String} {A : Nat → Prop} {s : State} (h : ez_Ls C n d A s s.heap) : (Cond.laysStatic C n d).before args s = true := by
  obtain ⟨c, k, i, f, a, cell, h1, h2, h3, h4, h5, h6, h7, h8, h9, h10⟩ := h
  exact Cond.laysStatic_of h1 h2 h3 h4 h5 h6 h7 h8 h9
theorem ez_Ls.of {args : Array Value} {C n d : String} {A : Nat → Prop} {s : State} (h : (Cond.laysStatic C n d).before args s = true) (hA : ∀ a : Nat, a < s.heap.size → ¬ A a) : ez_Ls C n d A s s.heap := by
  obtain ⟨c, k, i, f, a, cell, h1, h2, h3, h4, h5, h6, h7, h8, h9⟩ := Cond.laysStatic_spec h
  exact ⟨c, k, i, f, a, cell, h1, h2, h3, h4, h5, h6, h7, h8, h9, hA a (Array.getElem?_eq_some_iff.mp h5).1⟩
/-- the words on the JDK's statics that a throw reads -/
def ez_thw : List Cond := [.isRef (.static Bundle.tN "UNASSIGNED_STACK" Bundle.steD), .isRef (.static Bundle.tN "SUPPRESSED_SENTINEL" Bundle.listD), .laysStatic Bundle.tN "UNASSIGNED_STACK" Bundle.steD, .laysStatic Bundle.tN "SUPPRESSED_SENTINEL" Bundle.listD]
def ez_Th (B : Nat) (s : State) : Prop := va_Zq Bundle.tN "UNASSIGNED_STACK" Bundle.steD (ez_A B) s s.heap ∧ va_Zq Bundle.tN "SUPPRESSED_SENTINEL" Bundle.listD (ez_A B) s s.heap ∧ ez_Ls Bundle.tN "UNASSIGNED_STACK" Bundle.steD (ez_A B) s s.heap ∧ ez_Ls Bundle.tN "SUPPRESSED_SENTINEL" Bundle.listD (ez_A B) s s.heap
theorem ez_Th.there {B : Nat} {s U : State} (h : ez_Th B s) (hW : s.WarmedH U.vm) (hq : ∀ a : Nat, a < s.heap.size → ¬ ez_A B a → U.heap[a]? = s.heap[a]?) : ez_Th B U :=
  ⟨(h.1.kept hq).moved hW.alike, (h.2.1.kept hq).moved hW.alike, h.2.2.1.there hW hq, h.2.2.2.there hW hq⟩
theorem ez_Th.words {B : Nat} {s : State} (h : ez_Th B s) {args : Array Value} : ∀ w ∈ ez_thw, w.before args s = true := by
  intro w hw
  simp only [ez_thw, List.mem_cons, List.not_mem_nil, or_false] at hw
  rcases hw with rfl | rfl | rfl | rfl
  · exact ez_isRef h.1
  · exact ez_isRef h.2.1
  · exact h.2.2.1.word
  · exact h.2.2.2.word
/-- nothing written: each cell that was there is there as it was -/
theorem ez_same_nil {s t : State} {k n : Nat} (h : s.sameButNew t [] k n) {q : Nat} (hq : q < s.heap.size) : t.heap[q]? = s.heap[q]? := by
  obtain ⟨-, -, -, -, -, h6⟩ := h
  have hc : s.heap[q]? = some s.heap[q] := Array.getElem?_eq_getElem hq
  obtain ⟨c', h1, h2, h3, h4⟩ := h6 q _ hc
  rw [h1, hc, h2]
  congr 1
  have : c'.slots = s.heap[q].slots := by
    apply Array.ext_getElem?
    intro i
    exact h4 i (fun z => by cases z)
  rw [this]
section EZ15
variable {p : Program} {l : Launch} {e : Env} {R : Room} {s : State} {m : MethodId} {args : Array Value} {below : List Frame} {meth : Method} {c : Code} {H : Heap} {locs : List Loc} {cells slots : Nat} {cc : ByteArray} {pc B : Nat} {ea : Nat → Nat} {lsM : Array Slot} {own : String} {tbl : List Cond}
variable {D : va_G} {cl : List vw_C} {nf : Nat → Nat} {ty : Nat → Nat → FieldType} {dA : Nat → ClassId} {h : ez_H} {n0 u0 x : Nat} {Q : ez_Q} {exn : Nat → String}
theorem ez_Rel.bump (hR : ez_Rel D cl nf ty dA B h H) {H1 : Heap} (hz : H1.size = H.size + 1) (ho : ∀ q : Nat, q < H.size → H1[q]? = H[q]?) : ez_Rel D cl nf ty dA B (ez_bump h) H1 := by
  obtain ⟨hs, L, hL, hP, hD⟩ := hR
  refine ⟨by rw [hz, hs]; rfl, L, hL, ?_, hD⟩
  exact hP.kept (fun k q hk => ho q.1 ((hP k q hk).lt))
set_option maxHeartbeats 1000000 in
theorem ez_throw (hx : p.tables.exec = Jvm.exec) (hb : c.code = cc) (hlocks : meth.locks = false) (hml : c.maxLocals = lsM.size) (hown : s.vm.findClass own = some m.cls) (hts : ∀ w ∈ tbl, w.before args s = true) (hgd : ez_good tbl) (htr : e.platform.stackTraces = false) (hTh : ez_Th B s) (hout : c.exceptionTable.isEmpty = true)
    (hR : ez_Rel D cl nf ty dA B h H) (hS : va_S (ez_A B) s.heap H locs) (hs0 : s.heap.size = B + 1 + n0) (hn0 : n0 + cells = ez_n h) (hu0 : u0 + slots = ez_u h) (hn1 : ez_n h + 1 ≤ ez_MC) (hu1 : ez_u h + 6 ≤ ez_MS) (hcR : ez_MC ≤ n0 + R.cells) (hsR : ez_MS ≤ u0 + R.slots) (hfr : 6 ≤ R.frames) (hlo : 100 ≤ R.locals)
    {i0 i1 i2 q : Nat} {tx : String} (hfit : Bundle.fit (exn x) = true) (hat : ∀ w ∈ Bundle.ownAtoms own i2 (exn x) ez_up3, w ∈ tbl ∨ w ∈ ez_thw) (hl1 : Cond.classLink own i0 (exn x) ∈ tbl) (hl3 : Cond.initialized (exn x) ∈ tbl) (hstr : vk_R own i1 tx q s)
    (d0 : decode cc pc = .ok (.new i0, 3)) (d1 : decode cc (pc + 3) = .ok (.dup, 1)) (d2 : decode cc (pc + 4) = .ok (.ldc i1, 2)) (d3 : decode cc (pc + 6) = .ok (.invokespecial i2, 3)) (d4 : decode cc (pc + 9) = .ok (.athrow, 1)) (hQ : Q (.inr x) (ez_bump h)) :
    W p l e R s m args below meth c H locs cells slots (ez_Fin D cl nf ty dA B ea exn below s n0 u0 Q) (F0 m pc lsM []) := by
  intro T hT X
  have hc0 : cells ≤ R.cells := by omega
  have hsl0 : slots ≤ R.slots := by omega
  have X' := ez_rebase X hc0 hsl0
  generalize hs' : ez_re T m args below = s' at X'
  have hvm : s'.vm = T.vm := by rw [← hs']; rfl
  have hheap : s'.heap = T.heap := by rw [← hs']; rfl
  have hW0 : s.WarmedH s'.vm := by rw [hvm]; exact X.warmed
  have hts' : ∀ w ∈ tbl, w.before args s' = true := fun w hw => hgd w hw _ _ _ _ hW0 (hts w hw)
  have hown' : s'.vm.findClass own = some m.cls := by rw [hW0.alike.findClass]; exact hown
  have hq : ∀ a : Nat, a < s.heap.size → ¬ ez_A B a → s'.heap[a]? = s.heap[a]? := fun a h1 h2 => by rw [hheap, hT]; exact hS.2.1 a h1 h2
  have hat' : ∀ w ∈ Bundle.ownAtoms own i2 (exn x) ez_up3, w.before args s' = true := fun w hw => by
    rcases hat w hw with z | z
    · exact hts' w z
    · exact (hTh.there hW0 hq).words w z
  have hstr' : vk_R own i1 tx q s' := hstr.warm hW0
  have hin : (Cond.instantiable (exn x) 6).before args s' = true := hat' _ (by simp [Bundle.ownAtoms])
  obtain ⟨cX, kX, hfX, hkX, -⟩ := Cond.instantiable_spec hin
  have K : W p l e { frames := R.frames, cells := R.cells - cells, slots := R.slots - slots, locals := R.locals } s' m args below meth c T.heap [] 0 0 (fun t => ∃ ce, t.status = .running ∧ Ended t below (.threw T.heap.size) ∧ s'.WarmedH t.vm ∧ s'.sameButNew ({ t with vm := s'.vm } : State) [] 1 6 ∧ t.heap[T.heap.size]? = some ce ∧ Bundle.OwnCell args s' (exn x) T.heap.size (.ref q) ce) (F0 m pc lsM []) := by
    refine W.newcK hx hb hown' (hts' _ hl1) hin (hts' _ hl3) rfl d0 (by show 0 + 1 ≤ R.cells - cells; omega) (by show 0 + 6 ≤ R.slots - slots; omega) hfX rfl fun H1 kC hkC e1 z1 o1 => ?_
    cases Option.some.inj (hkX.symm.trans hkC)
    refine lv_dup hx hb d1 rfl ?_
    refine va_ldcS hx hb hown' hstr' d2 ?_
    intro T2 hT2 X2
    obtain ⟨U, k1, k2, k3, k4, k5, ce, k6, k7⟩ := X2.ctorThrowS hx htr hown' hfit (by decide +kernel) hat' (fun _ hh => by cases hh) hfX hkX (a := T.heap.size) (by rw [hT2]; exact e1) (by rw [hheap]; exact Nat.le_refl _) (msg := .ref q) rfl (g := F0 m (pc + 6) lsM [.ref q, .ref T.heap.size, .ref T.heap.size]) rfl hml.symm rfl rfl (rest := []) rfl
      (by rw [hb]; exact d3) (by rw [hb]; exact d4) (covers_of_empty hout _) (by show ez_up3.length + 3 < R.frames; show 2 + 3 < R.frames; omega) (by show 2 * 0 + 1 + (13 * (2 + 1) + 42) ≤ R.locals; omega) (hlocks := hlocks)
    exact ⟨U, k1, ce, k2, k3, k4, k5, k6, k7⟩
  obtain ⟨t, a1, ce, k2, k3, k4, k5, k6, k7⟩ := K T rfl X'
  have hlt := (Array.getElem?_eq_some_iff.mp k6).1
  have hle : t.heap.size ≤ s'.heap.size + 1 := k5.2.2.1
  rw [hheap] at hle
  have hz : t.heap.size = H.size + 1 := by rw [← hT]; omega
  have hold : ∀ a : Nat, a < H.size → t.heap[a]? = H[a]? := fun a ha => by
    have h1 : a < s'.heap.size := by rw [hheap, hT]; exact ha
    have h2 : ({ t with vm := s'.vm } : State).heap[a]? = s'.heap[a]? := ez_same_nil k5 h1
    rw [← hT, ← hheap]
    exact h2
  have hWt : s.WarmedH t.vm := State.WarmedH.trans hW0 k4
  obtain ⟨g₀, hfrT⟩ := X.frames_eq
  have hT5 : T.sameButNew ({ t with vm := T.vm } : State) [] 1 6 := by
    have h1 := k5
    rw [← hs'] at h1
    refine ⟨?_, h1.2⟩
    have h2 := h1.1
    show ({ t with vm := T.vm } : State) = { T.setFrames t.frames with heap := t.heap, slotsUsed := t.slotsUsed }
    have h3 : (ez_re T m args below).setFrames t.frames = T.setFrames t.frames := State.setFrames_setFrames _ _ _
    rw [← h3]
    exact h2
  have hfin := X.same.trans (hT5.setVm s.vm)
  rw [List.append_nil] at hfin
  refine ⟨t, a1, .threw T.heap.size, k2, k3, .inr x, ez_bump h, hQ, ⟨T.heap.size, ce, rfl, k6, by rw [k7.vm]; rfl, ?_⟩, hR.bump hz hold, hWt, ⟨by show n0 ≤ ez_n h + 1; omega, by show u0 ≤ ez_u h + 6; omega, hn1, hu1⟩, fun a g1 g2 => ?_, ?_, locs, ?_, hS.2.2⟩
  · rw [← hW0.alike.findClass]
    exact k7.cls
  · rw [hold a (Nat.lt_of_lt_of_le g1 hS.1)]
    exact hS.2.1 a g1 g2
  · have := hS.1
    omega
  · rw [show ez_n (ez_bump h) - n0 = cells + 1 by show ez_n h + 1 - n0 = _; omega, show ez_u (ez_bump h) - u0 = slots + 6 by show ez_u h + 6 - u0 = _; omega]
    exact hfin
end EZ15
