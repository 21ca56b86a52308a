section EZU
variable (cl : List vw_C) (nf : Nat → Nat) (ty : Nat → Nat → FieldType) (exn : Nat → String) (sta : Nat → String × String × String) (nm : Nat → MethodName) (bytes : Nat → ByteArray) (ml : Nat → Nat) (ret : Nat → Option FieldType) (hh : Nat → List (Nat × Nat × Nat × Nat)) (tbl : List Cond) (strs : List (String × Nat × String))
variable (tb : List Cond) (ncl nM : Nat) (ct : Nat → u_T) (cn : Nat → String) (host : String) (thr : List (Nat × Nat × Nat))
def ez_ckb (own : String) (y : MethodName) (n : Nat) (noH : Bool) (rt : Option FieldType) (i : ClassFile.Instr) (b k : Nat) : Bool :=
  plainName y.cls && decide (y.cls ≠ "java/lang/invoke/MethodHandle") && decide (y.cls ≠ "java/lang/invoke/VarHandle") && ez_inb tb (.initialized y.cls) && decide (n ≤ 21) && (match i with
  | .invokevirtual idx => ez_inb tb (.methodLink own idx y) && ez_inb tb (.instanceMethod y) && ez_inb tb (.selects y.cls y y) && decide (0 < k) && decide (k ≤ ncl) && decide (cn k = y.cls) && decide ((parseMethodDescriptor y.desc).map (fun d => d.parameters.length + 1) = some b)
  | .invokespecial idx => (ez_inb tb (.methodLink own idx y) || ez_inb tb (.methodLinkNest own idx y host)) && decide (y.name = "<init>") && ez_inb tb (.instanceMethod y) && noH && decide (rt = none) && decide (0 < k) && decide ((parseMethodDescriptor y.desc).map (fun d => d.parameters.length + 1) = some b)
  | .invokestatic idx => (ez_inb tb (.methodLink own idx y) || ez_inb tb (.methodLinkNest own idx y host)) && ez_inb tb (.static y) && decide (k = 0) && decide ((parseMethodDescriptor y.desc).map (fun d => d.parameters.length) = some b)
  | _ => false)
theorem ez_ckb_ok (hs : ∀ w ∈ tb, w ∈ tbl) (hcls : ∀ a, 0 < a → a ≤ ncl → ez_Cls tbl cl nf ty a (cn a) (ct a)) {own : String} {y : MethodName} {wc : Cond} {n : Nat} {noH : Bool} {P : Prop} (hP : noH = true → P) {rt : Option FieldType} {i : ClassFile.Instr} {b k : Nat} (hwc : wc ∈ tbl) (h : ez_ckb tb ncl cn host own y n noH rt i b k = true) : ez_ck own y wc n P rt tbl cl i b k := by
  simp only [ez_ckb, Bool.and_eq_true, decide_eq_true_eq, ez_inb] at h
  obtain ⟨⟨⟨⟨⟨h1, h2⟩, h3⟩, h4⟩, h5⟩, h6⟩ := h
  refine ⟨h1, ⟨h2, h3⟩, hs _ h4, hwc, h5, ?_⟩
  split at h6
  · simp only [Bool.and_eq_true, decide_eq_true_eq] at h6
    obtain ⟨⟨⟨⟨⟨⟨z1, z2⟩, z3⟩, z4⟩, z5⟩, z6⟩, z7⟩ := h6
    have hC := hcls k z4 z5
    refine ⟨hs _ z1, hs _ z2, hs _ z3, ⟨z4, hC.2.1⟩, ⟨ct k, nf k, ?_⟩, z7⟩
    rw [← z6]
    exact hC.2.2.1
  · simp only [Bool.and_eq_true, Bool.or_eq_true, decide_eq_true_eq] at h6
    obtain ⟨⟨⟨⟨⟨⟨z1, z2⟩, z3⟩, z4⟩, z5⟩, z6⟩, z7⟩ := h6
    exact ⟨z1.imp (hs _) (fun z => ⟨host, hs _ z⟩), z2, hs _ z3, hP z4, z5, z6, z7⟩
  · simp only [Bool.and_eq_true, Bool.or_eq_true, decide_eq_true_eq] at h6
    obtain ⟨⟨⟨z1, z2⟩, z3⟩, z4⟩ := h6
    exact ⟨z1.imp (hs _) (fun z => ⟨host, hs _ z⟩), hs _ z2, z3, z4⟩
  · cases h6
def ez_decb (bs : ByteArray) (pc : Nat) (i : ClassFile.Instr) : Bool := match decode bs pc with
  | .ok (i', len) => decide (i' = i) && (ez_isSw i || decide (len = ez_ln i))
  | .error _ => false
theorem ez_decb_ok {bs : ByteArray} {pc : Nat} {i : ClassFile.Instr} (h : ez_decb bs pc i = true) : ∃ len, decode bs pc = .ok (i, len) ∧ (ez_isSw i = false → len = ez_ln i) := by
  unfold ez_decb at h
  split at h
  · rename_i i' len hq
    simp only [Bool.and_eq_true, Bool.or_eq_true, decide_eq_true_eq] at h
    obtain ⟨rfl, h2⟩ := h
    exact ⟨len, hq, fun z => h2.elim (fun q => by rw [z] at q; cases q) id⟩
  · cases h
def ez_retb (rt : Option FieldType) (i : ClassFile.Instr) (a : Nat) : Bool := match i with
  | .ireturn => decide (rt = if a = 0 then some .int else some .boolean)
  | .lreturn => decide (rt = some .long)
  | .return_ => decide (rt = none)
  | _ => true
theorem ez_retb_ok {rt : Option FieldType} {i : ClassFile.Instr} {a : Nat} (h : ez_retb rt i a = true) : (i = .ireturn → rt = if a = 0 then some .int else some .boolean) ∧ (i = .lreturn → rt = some .long) ∧ (i = .return_ → rt = none) := by
  refine ⟨?_, ?_, ?_⟩ <;> intro z <;> subst z <;> exact of_decide_eq_true h
def ez_thb (thr : List (Nat × Nat × Nat)) (bs : ByteArray) (mi pc a : Nat) (i : ClassFile.Instr) : Bool := match ez_isThr i with
  | true => decide ((mi, pc, a) ∈ thr)
  | false => ez_decb bs pc i
def ez_ok1b (mi : Nat) (q : ez_C) : Bool := match q with
  | (pc, i, a, b, k, v) => ez_thb thr (bytes mi) mi pc a i && ez_cstb (nm mi).cls tb (ml mi) i v && ez_brb i pc a && ez_jkb i pc a && ez_lkb (nm mi).cls tb ncl ct cn nf ty sta host (decide ((nm mi).name = "<init>")) i a b k && ez_retb (ret mi) i a && (!(ez_cl i k) || (decide (a < nM) && ez_ckb tb ncl cn host (nm mi).cls (nm a) (ml a) (decide (hh a = [])) (ret a) i b k))
def ez_okLb (mi : Nat) : List ez_C → Bool
  | [] => true
  | q :: cs => ez_ok1b nf ty sta nm bytes ml ret hh tb ncl nM ct cn host thr mi q && (match cs with
    | [] => true
    | q' :: _ => ez_isSw q.2.1 || ez_isThr q.2.1 || decide (q'.1 = q.1 + ez_ln q.2.1)) && ez_okLb mi cs
theorem ez_ok1b_ok (hs : ∀ w ∈ tb, w ∈ tbl) (hg : ez_gen tbl) (hcls : ∀ a, 0 < a → a ≤ ncl → ez_Cls tbl cl nf ty a (cn a) (ct a)) (hwc : ∀ a, a < nM → ez_wc (nm a) (bytes a) (ml a) (ret a) (hh a) ∈ tbl) (hthr : ∀ q ∈ thr, ez_tk exn nm bytes hh tbl strs q.1 q.2.1 q.2.2) {mi : Nat} {q : ez_C} (h : ez_ok1b nf ty sta nm bytes ml ret hh tb ncl nM ct cn host thr mi q = true) : ez_ok1 cl nf ty exn sta nm bytes ml ret hh tbl strs mi q := by
  obtain ⟨pc, i, a, b, k, v⟩ := q
  unfold ez_ok1b at h
  simp only [Bool.and_eq_true] at h
  obtain ⟨⟨⟨⟨⟨⟨h1, h2⟩, h3⟩, h4⟩, h5⟩, h6⟩, h7⟩ := h
  have t1 : ez_isThr i = true → ez_tk exn nm bytes hh tbl strs mi pc a := fun z => by
    unfold ez_thb at h1
    rw [z] at h1
    exact hthr (mi, pc, a) (of_decide_eq_true h1)
  have t2 : ez_isThr i = false → ∃ len, decode (bytes mi) pc = .ok (i, len) ∧ (ez_isSw i = false → len = ez_ln i) := fun z => by
    unfold ez_thb at h1
    rw [z] at h1
    exact ez_decb_ok h1
  have t3 : ez_cl i k = true → ez_ck (nm mi).cls (nm a) (ez_wc (nm a) (bytes a) (ml a) (ret a) (hh a)) (ml a) (hh a = []) (ret a) tbl cl i b k := fun z => by
    rw [z] at h7
    simp only [Bool.not_true, Bool.false_or, Bool.and_eq_true, decide_eq_true_eq] at h7
    exact ez_ckb_ok cl nf ty tbl tb ncl ct cn host hs hcls (fun z => of_decide_eq_true z) (hwc a h7.1) h7.2
  exact ⟨t1, t2, ez_cstb_ok _ _ hs h2, ez_brb_ok h3, ez_jkb_ok h4, ez_lkb_ok _ _ _ _ _ _ _ _ _ hs hg hcls (fun z => of_decide_eq_true z) h5, ez_retb_ok h6, t3⟩
theorem ez_okLb_ok (hs : ∀ w ∈ tb, w ∈ tbl) (hg : ez_gen tbl) (hcls : ∀ a, 0 < a → a ≤ ncl → ez_Cls tbl cl nf ty a (cn a) (ct a)) (hwc : ∀ a, a < nM → ez_wc (nm a) (bytes a) (ml a) (ret a) (hh a) ∈ tbl) (hthr : ∀ q ∈ thr, ez_tk exn nm bytes hh tbl strs q.1 q.2.1 q.2.2) {mi : Nat} : ∀ cs : List ez_C, ez_okLb nf ty sta nm bytes ml ret hh tb ncl nM ct cn host thr mi cs = true → ez_okL cl nf ty exn sta nm bytes ml ret hh tbl strs mi cs
  | [], _ => trivial
  | q :: cs, h => by
    simp only [ez_okLb, Bool.and_eq_true] at h
    obtain ⟨⟨h1, h2⟩, h3⟩ := h
    refine ⟨ez_ok1b_ok _ _ _ _ _ _ _ _ _ _ _ _ _ _ _ _ _ _ _ hs hg hcls hwc hthr h1, ?_, ez_okLb_ok hs hg hcls hwc hthr cs h3⟩
    rintro q' cs' rfl s1 s2
    simp only [s1, s2, Bool.false_or, decide_eq_true_eq] at h2
    exact h2
end EZU
