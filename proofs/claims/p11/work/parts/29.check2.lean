section EZU
variable (cl : List vw_C) (nf : Nat → Nat) (ty : Nat → Nat → FieldType) (exn : Nat → String) (sta : Nat → String × String × String) (nm : Nat → MethodName) (bytes : Nat → ByteArray) (ml : Nat → Nat) (ret : Nat → Option FieldType) (hh : Nat → List (Nat × Nat × Nat × Nat)) (tbl : List Cond) (strs : List (String × Nat × String))
variable (tb : List Cond) (ncl nM : Nat) (ct : Nat → u_T) (cn : Nat → String) (host : String) (thr : List (Nat × Nat × Nat))
def ez_ckb (own : String) (y : MethodName) (n : Nat) (noH : Bool) (rt : Option FieldType) (i : ClassFile.Instr) (b k : Nat) : Bool :=
  plainName y.cls && decide (y.cls ≠ "java/lang/invoke/MethodHandle") && decide (y.cls ≠ "java/lang/invoke/VarHandle") && ez_inb tb (.initialized y.cls) && decide (n ≤ 21) && (match i with
  | .invokevirtual idx => ez_inb tb (.methodLink own idx y) && ez_inb tb (.instanceMethod y) && ez_inb tb (.selects y.cls y y) && decide (0 < k) && decide (k ≤ ncl) && decide (cn k = y.cls) && decide ((parseMethodDescriptor y.desc).map (fun d => d.parameters.length + 1) = some b)
  | .invokespecial idx => (ez_inb tb (.methodLink own idx y) || ez_inb tb (.methodLinkNest own idx y host)) && decide (y.name = "<init>") && ez_inb tb (.instanceMethod y) && noH && decide (rt = none) && decide (0 < k) && decide ((parseMethodDescriptor y.desc).map (fun d => d.parameters.length + 1) = some b)
  | .invokestatic idx => (ez_inb tb (.methodLink own idx y) || ez_inb tb (.methodLinkNest own idx y host)) && ez_inb tb (.static y) && decide (k = 0) && decide ((parseMethodDescriptor y.desc).map (fun d => d.parameters.length) = some b)
  | _ => false)
theorem ez_ckb_ok (hs : ∀ w ∈ tb, w ∈ tbl) (hcls : ∀ a, 0 < a → a ≤ ncl → ez_Cls tbl cl nf ty a (cn a) (ct a)) {own : String} {y : MethodName} {wc : Cond} {n : Nat} {noH : Bool} {P : Prop} (hP : noH = true → P) {rt : Option FieldType} {i : ClassFile.Instr} {b k : Nat} (hwc : wc ∈ tbl) (h : ez_ckb tb ncl cn host own y n noH rt i b k = true) : ez_ck own y wc n P rt tbl cl i b k := by
  simp only [ez_ckb, Bool.and_eq_true, decide_eq_true_eq, ez_inb_iff] at h
  obtain ⟨⟨⟨⟨⟨h1, h2⟩, h3⟩, h4⟩, h5⟩, h6⟩ := h
  refine ⟨h1, ⟨h2, h3⟩, hs _ h4, hwc, h5, ?_⟩
  split at h6
  · simp only [Bool.and_eq_true, decide_eq_true_eq, ez_inb_iff] at h6
    obtain ⟨⟨⟨⟨⟨⟨z1, z2⟩, z3⟩, z4⟩, z5⟩, z6⟩, z7⟩ := h6
    have hC := hcls k z4 z5
    refine ⟨hs _ z1, hs _ z2, hs _ z3, ⟨z4, hC.2.1⟩, ⟨ct k, nf k, ?_⟩, z7⟩
    rw [← z6]
    exact hC.2.2.1
  · simp only [Bool.and_eq_true, Bool.or_eq_true, decide_eq_true_eq, ez_inb_iff] at h6
    obtain ⟨⟨⟨⟨⟨⟨z1, z2⟩, z3⟩, z4⟩, z5⟩, z6⟩, z7⟩ := h6
    exact ⟨z1.imp (hs _) (fun z => ⟨host, hs _ z⟩), z2, hs _ z3, hP z4, z5, z6, z7⟩
  · simp only [Bool.and_eq_true, Bool.or_eq_true, decide_eq_true_eq, ez_inb_iff] at h6
    obtain ⟨⟨⟨z1, z2⟩, z3⟩, z4⟩ := h6
    exact ⟨z1.imp (hs _) (fun z => ⟨host, hs _ z⟩), hs _ z2, z3, z4⟩
  · cases h6
/-! an instruction is told by the four bytes at its place: decode over a window (the operands in use alone) -/
def dw_ag (bs bs' : ByteArray) (d : Nat) : Prop := ∀ p (h : p < bs'.size), ∃ h2 : d + p < bs.size, bs[d + p]'h2 = bs'[p]'h
def dw {α : Type} (bs bs' : ByteArray) (d : Nat) (r r' : ClassFile.Decoder α) : Prop := ∀ p x q, r' bs' p = .ok (x, q) → r bs (d + p) = .ok (x, d + q)
section DW
variable {bs bs' : ByteArray} {d : Nat}
theorem dw_pure {α : Type} (a : α) : dw bs bs' d (pure a) (pure a) := by
  intro p x q h
  have h' : (Except.ok (a, p) : Except ClassFile.DecodeError (α × Nat)) = .ok (x, q) := h
  cases h'
  rfl
theorem dw_bind {α β : Type} {r r' : ClassFile.Decoder α} {f f' : α → ClassFile.Decoder β} (h : dw bs bs' d r r') (g : ∀ a, dw bs bs' d (f a) (f' a)) : dw bs bs' d (r >>= f) (r' >>= f') := by
  intro p x q e
  have e2 : Except.bind (r' bs' p) (fun v => f' v.1 bs' v.2) = .ok (x, q) := e
  cases hv : r' bs' p with
  | error er =>
    rw [hv] at e2
    have e3 : (Except.error er : Except ClassFile.DecodeError (β × Nat)) = .ok (x, q) := e2
    cases e3
  | ok v =>
    obtain ⟨a, s⟩ := v
    rw [hv] at e2
    have e3 : f' a bs' s = .ok (x, q) := e2
    have h3 := h p a s hv
    show Except.bind (r bs (d + p)) (fun v => f v.1 bs v.2) = .ok (x, d + q)
    rw [h3]
    exact g a s x q e3
theorem dw_map {α β : Type} {f : α → β} {r r' : ClassFile.Decoder α} (h : dw bs bs' d r r') : dw bs bs' d (f <$> r) (f <$> r') := by
  intro p x q e
  have e2 : Except.bind (r' bs' p) (fun v => Except.ok (f v.1, v.2)) = Except.ok (x, q) := e
  cases hv : r' bs' p with
  | error er =>
    rw [hv] at e2
    have e3 : (Except.error er : Except ClassFile.DecodeError (β × Nat)) = .ok (x, q) := e2
    cases e3
  | ok v =>
    obtain ⟨a, s⟩ := v
    rw [hv] at e2
    have e3 : (Except.ok (f a, s) : Except ClassFile.DecodeError (β × Nat)) = .ok (x, q) := e2
    cases e3
    have h3 := h p a q hv
    show Except.bind (r bs (d + p)) (fun v => Except.ok (f v.1, v.2)) = Except.ok (f a, d + q)
    rw [h3]
    rfl
theorem dw_u1v {b : ByteArray} {p : Nat} (hp : p < b.size) : (ClassFile.Reader.u1 : ClassFile.Decoder Nat) b p = .ok ((b[p]'hp).toNat, p + 1) := by
  show (dite (p < b.size) (fun h => (do set (p + 1); pure (b[p]'h).toNat : ClassFile.Decoder Nat)) (fun _ => throw (ClassFile.HasTruncated.truncated p))) b p = _
  rw [dif_pos hp]
  rfl
theorem dw_u1e {b : ByteArray} {p : Nat} (hp : ¬p < b.size) : (ClassFile.Reader.u1 : ClassFile.Decoder Nat) b p = .error (ClassFile.HasTruncated.truncated p) := by
  show (dite (p < b.size) (fun h => (do set (p + 1); pure (b[p]'h).toNat : ClassFile.Decoder Nat)) (fun _ => throw (ClassFile.HasTruncated.truncated p))) b p = _
  rw [dif_neg hp]
  rfl
theorem dw_u1 (ha : dw_ag bs bs' d) : dw bs bs' d ClassFile.Reader.u1 ClassFile.Reader.u1 := by
  intro p x q h
  by_cases hp : p < bs'.size
  · obtain ⟨h2, e⟩ := ha p hp
    rw [dw_u1v hp] at h
    cases h
    rw [dw_u1v h2, e]
    rfl
  · rw [dw_u1e hp] at h
    cases h
theorem dw_s1 (ha : dw_ag bs bs' d) : dw bs bs' d ClassFile.Reader.s1 ClassFile.Reader.s1 := dw_map (dw_u1 ha)
theorem dw_u2 (ha : dw_ag bs bs' d) : dw bs bs' d ClassFile.Reader.u2 ClassFile.Reader.u2 := dw_bind (dw_u1 ha) (fun _ => dw_bind (dw_u1 ha) (fun _ => dw_pure _))
theorem dw_s2 (ha : dw_ag bs bs' d) : dw bs bs' d ClassFile.Reader.s2 ClassFile.Reader.s2 := dw_map (dw_u2 ha)
theorem dw_bindC (ha : dw_ag bs bs' d) {β : Type} {f f' : Nat → ClassFile.Decoder β} {S : List Nat} (g : ∀ a ∈ S, dw bs bs' d (f a) (f' a)) {p q : Nat} {x : β} (hok : ∀ h : p < bs'.size, (bs'[p]'h).toNat ∈ S) (e : ((ClassFile.Reader.u1 : ClassFile.Decoder Nat) >>= f') bs' p = .ok (x, q)) : ((ClassFile.Reader.u1 : ClassFile.Decoder Nat) >>= f) bs (d + p) = .ok (x, d + q) := by
  have e2 : Except.bind ((ClassFile.Reader.u1 : ClassFile.Decoder Nat) bs' p) (fun v => f' v.1 bs' v.2) = .ok (x, q) := e
  by_cases hp : p < bs'.size
  · obtain ⟨h2, eb⟩ := ha p hp
    rw [dw_u1v hp] at e2
    have e3 : f' (bs'[p]'hp).toNat bs' (p + 1) = .ok (x, q) := e2
    show Except.bind ((ClassFile.Reader.u1 : ClassFile.Decoder Nat) bs (d + p)) (fun v => f v.1 bs v.2) = .ok (x, d + q)
    rw [dw_u1v h2, eb]
    exact g _ (hok hp) (p + 1) x q e3
  · rw [dw_u1e hp] at e2
    have e3 : (Except.error (ClassFile.HasTruncated.truncated p) : Except ClassFile.DecodeError (β × Nat)) = .ok (x, q) := e2
    cases e3
def dw_ops : List Nat := [42, 43, 44, 45, 180, 2, 3, 4, 5, 6, 7, 8, 26, 27, 28, 29, 21, 16, 159, 160, 161, 162, 163, 164, 46, 182, 167, 79, 96, 181, 17, 54, 89, 153, 154, 155, 156, 157, 158, 59, 60, 61, 62, 132, 172, 177, 100, 184, 104, 190, 183, 178, 87, 126, 120, 92, 25, 122, 187, 51, 133, 84, 128, 22, 75, 76, 77, 78, 130, 108, 18, 97, 145, 80, 124, 191, 20, 55, 105, 112, 19, 47, 148, 30, 31, 32, 33, 63, 64, 65, 66, 136, 9, 10, 58, 116, 173]
set_option maxHeartbeats 4000000 in
set_option maxRecDepth 20000 in
theorem dw_opc (ha : dw_ag bs bs' d) {pc pc' p q : Nat} {x : ClassFile.Instr} (hok : ∀ h : p < bs'.size, (bs'[p]'h).toNat ∈ dw_ops) (h : ClassFile.Decoder.instr pc' bs' p = .ok (x, q)) : ClassFile.Decoder.instr pc bs (d + p) = .ok (x, d + q) := by
  unfold ClassFile.Decoder.instr at h ⊢
  refine dw_bindC ha ?_ hok h
  unfold dw_ops
  refine List.forall_mem_cons.mpr ⟨dw_pure _, ?_⟩
  refine List.forall_mem_cons.mpr ⟨dw_pure _, ?_⟩
  refine List.forall_mem_cons.mpr ⟨dw_pure _, ?_⟩
  refine List.forall_mem_cons.mpr ⟨dw_pure _, ?_⟩
  refine List.forall_mem_cons.mpr ⟨dw_bind (dw_u2 ha) (fun _ => dw_pure _), ?_⟩
  refine List.forall_mem_cons.mpr ⟨dw_pure _, ?_⟩
  refine List.forall_mem_cons.mpr ⟨dw_pure _, ?_⟩
  refine List.forall_mem_cons.mpr ⟨dw_pure _, ?_⟩
  refine List.forall_mem_cons.mpr ⟨dw_pure _, ?_⟩
  refine List.forall_mem_cons.mpr ⟨dw_pure _, ?_⟩
  refine List.forall_mem_cons.mpr ⟨dw_pure _, ?_⟩
  refine List.forall_mem_cons.mpr ⟨dw_pure _, ?_⟩
  refine List.forall_mem_cons.mpr ⟨dw_pure _, ?_⟩
  refine List.forall_mem_cons.mpr ⟨dw_pure _, ?_⟩
  refine List.forall_mem_cons.mpr ⟨dw_pure _, ?_⟩
  refine List.forall_mem_cons.mpr ⟨dw_pure _, ?_⟩
  refine List.forall_mem_cons.mpr ⟨dw_bind (dw_u1 ha) (fun _ => dw_pure _), ?_⟩
  refine List.forall_mem_cons.mpr ⟨dw_bind (dw_s1 ha) (fun _ => dw_pure _), ?_⟩
  refine List.forall_mem_cons.mpr ⟨dw_bind (dw_s2 ha) (fun _ => dw_pure _), ?_⟩
  refine List.forall_mem_cons.mpr ⟨dw_bind (dw_s2 ha) (fun _ => dw_pure _), ?_⟩
  refine List.forall_mem_cons.mpr ⟨dw_bind (dw_s2 ha) (fun _ => dw_pure _), ?_⟩
  refine List.forall_mem_cons.mpr ⟨dw_bind (dw_s2 ha) (fun _ => dw_pure _), ?_⟩
  refine List.forall_mem_cons.mpr ⟨dw_bind (dw_s2 ha) (fun _ => dw_pure _), ?_⟩
  refine List.forall_mem_cons.mpr ⟨dw_bind (dw_s2 ha) (fun _ => dw_pure _), ?_⟩
  refine List.forall_mem_cons.mpr ⟨dw_pure _, ?_⟩
  refine List.forall_mem_cons.mpr ⟨dw_bind (dw_u2 ha) (fun _ => dw_pure _), ?_⟩
  refine List.forall_mem_cons.mpr ⟨dw_bind (dw_s2 ha) (fun _ => dw_pure _), ?_⟩
  refine List.forall_mem_cons.mpr ⟨dw_pure _, ?_⟩
  refine List.forall_mem_cons.mpr ⟨dw_pure _, ?_⟩
  refine List.forall_mem_cons.mpr ⟨dw_bind (dw_u2 ha) (fun _ => dw_pure _), ?_⟩
  refine List.forall_mem_cons.mpr ⟨dw_bind (dw_s2 ha) (fun _ => dw_pure _), ?_⟩
  refine List.forall_mem_cons.mpr ⟨dw_bind (dw_u1 ha) (fun _ => dw_pure _), ?_⟩
  refine List.forall_mem_cons.mpr ⟨dw_pure _, ?_⟩
  refine List.forall_mem_cons.mpr ⟨dw_bind (dw_s2 ha) (fun _ => dw_pure _), ?_⟩
  refine List.forall_mem_cons.mpr ⟨dw_bind (dw_s2 ha) (fun _ => dw_pure _), ?_⟩
  refine List.forall_mem_cons.mpr ⟨dw_bind (dw_s2 ha) (fun _ => dw_pure _), ?_⟩
  refine List.forall_mem_cons.mpr ⟨dw_bind (dw_s2 ha) (fun _ => dw_pure _), ?_⟩
  refine List.forall_mem_cons.mpr ⟨dw_bind (dw_s2 ha) (fun _ => dw_pure _), ?_⟩
  refine List.forall_mem_cons.mpr ⟨dw_bind (dw_s2 ha) (fun _ => dw_pure _), ?_⟩
  refine List.forall_mem_cons.mpr ⟨dw_pure _, ?_⟩
  refine List.forall_mem_cons.mpr ⟨dw_pure _, ?_⟩
  refine List.forall_mem_cons.mpr ⟨dw_pure _, ?_⟩
  refine List.forall_mem_cons.mpr ⟨dw_pure _, ?_⟩
  refine List.forall_mem_cons.mpr ⟨dw_bind (dw_u1 ha) (fun _ => dw_bind (dw_s1 ha) (fun _ => dw_pure _)), ?_⟩
  refine List.forall_mem_cons.mpr ⟨dw_pure _, ?_⟩
  refine List.forall_mem_cons.mpr ⟨dw_pure _, ?_⟩
  refine List.forall_mem_cons.mpr ⟨dw_pure _, ?_⟩
  refine List.forall_mem_cons.mpr ⟨dw_bind (dw_u2 ha) (fun _ => dw_pure _), ?_⟩
  refine List.forall_mem_cons.mpr ⟨dw_pure _, ?_⟩
  refine List.forall_mem_cons.mpr ⟨dw_pure _, ?_⟩
  refine List.forall_mem_cons.mpr ⟨dw_bind (dw_u2 ha) (fun _ => dw_pure _), ?_⟩
  refine List.forall_mem_cons.mpr ⟨dw_bind (dw_u2 ha) (fun _ => dw_pure _), ?_⟩
  refine List.forall_mem_cons.mpr ⟨dw_pure _, ?_⟩
  refine List.forall_mem_cons.mpr ⟨dw_pure _, ?_⟩
  refine List.forall_mem_cons.mpr ⟨dw_pure _, ?_⟩
  refine List.forall_mem_cons.mpr ⟨dw_pure _, ?_⟩
  refine List.forall_mem_cons.mpr ⟨dw_bind (dw_u1 ha) (fun _ => dw_pure _), ?_⟩
  refine List.forall_mem_cons.mpr ⟨dw_pure _, ?_⟩
  refine List.forall_mem_cons.mpr ⟨dw_bind (dw_u2 ha) (fun _ => dw_pure _), ?_⟩
  refine List.forall_mem_cons.mpr ⟨dw_pure _, ?_⟩
  refine List.forall_mem_cons.mpr ⟨dw_pure _, ?_⟩
  refine List.forall_mem_cons.mpr ⟨dw_pure _, ?_⟩
  refine List.forall_mem_cons.mpr ⟨dw_pure _, ?_⟩
  refine List.forall_mem_cons.mpr ⟨dw_bind (dw_u1 ha) (fun _ => dw_pure _), ?_⟩
  refine List.forall_mem_cons.mpr ⟨dw_pure _, ?_⟩
  refine List.forall_mem_cons.mpr ⟨dw_pure _, ?_⟩
  refine List.forall_mem_cons.mpr ⟨dw_pure _, ?_⟩
  refine List.forall_mem_cons.mpr ⟨dw_pure _, ?_⟩
  refine List.forall_mem_cons.mpr ⟨dw_pure _, ?_⟩
  refine List.forall_mem_cons.mpr ⟨dw_pure _, ?_⟩
  refine List.forall_mem_cons.mpr ⟨dw_bind (dw_u1 ha) (fun _ => dw_pure _), ?_⟩
  refine List.forall_mem_cons.mpr ⟨dw_pure _, ?_⟩
  refine List.forall_mem_cons.mpr ⟨dw_pure _, ?_⟩
  refine List.forall_mem_cons.mpr ⟨dw_pure _, ?_⟩
  refine List.forall_mem_cons.mpr ⟨dw_pure _, ?_⟩
  refine List.forall_mem_cons.mpr ⟨dw_pure _, ?_⟩
  refine List.forall_mem_cons.mpr ⟨dw_bind (dw_u2 ha) (fun _ => dw_pure _), ?_⟩
  refine List.forall_mem_cons.mpr ⟨dw_bind (dw_u1 ha) (fun _ => dw_pure _), ?_⟩
  refine List.forall_mem_cons.mpr ⟨dw_pure _, ?_⟩
  refine List.forall_mem_cons.mpr ⟨dw_pure _, ?_⟩
  refine List.forall_mem_cons.mpr ⟨dw_bind (dw_u2 ha) (fun _ => dw_pure _), ?_⟩
  refine List.forall_mem_cons.mpr ⟨dw_pure _, ?_⟩
  refine List.forall_mem_cons.mpr ⟨dw_pure _, ?_⟩
  refine List.forall_mem_cons.mpr ⟨dw_pure _, ?_⟩
  refine List.forall_mem_cons.mpr ⟨dw_pure _, ?_⟩
  refine List.forall_mem_cons.mpr ⟨dw_pure _, ?_⟩
  refine List.forall_mem_cons.mpr ⟨dw_pure _, ?_⟩
  refine List.forall_mem_cons.mpr ⟨dw_pure _, ?_⟩
  refine List.forall_mem_cons.mpr ⟨dw_pure _, ?_⟩
  refine List.forall_mem_cons.mpr ⟨dw_pure _, ?_⟩
  refine List.forall_mem_cons.mpr ⟨dw_pure _, ?_⟩
  refine List.forall_mem_cons.mpr ⟨dw_pure _, ?_⟩
  refine List.forall_mem_cons.mpr ⟨dw_pure _, ?_⟩
  refine List.forall_mem_cons.mpr ⟨dw_pure _, ?_⟩
  refine List.forall_mem_cons.mpr ⟨dw_bind (dw_u1 ha) (fun _ => dw_pure _), ?_⟩
  refine List.forall_mem_cons.mpr ⟨dw_pure _, ?_⟩
  refine List.forall_mem_cons.mpr ⟨dw_pure _, ?_⟩
  exact fun _ hm => by cases hm
end DW
theorem dw_ag_of (l : List UInt8) (pc : Nat) : dw_ag ⟨⟨l⟩⟩ ⟨⟨(l.drop pc).take 4⟩⟩ pc := by
  intro p h
  have h' : p < ((l.drop pc).take 4).length := h
  have hl : pc + p < l.length := by
    rw [List.length_take, List.length_drop] at h'
    omega
  refine ⟨hl, ?_⟩
  show l[pc + p]'hl = ((l.drop pc).take 4)[p]'h'
  rw [List.getElem_take, List.getElem_drop]
theorem dw_decode {l : List UInt8} {pc n : Nat} {i : ClassFile.Instr} {b : UInt8} {t : List UInt8} (hb : l.drop pc = b :: t) (hok : b.toNat ∈ dw_ops) (h : decode ⟨⟨(b :: t).take 4⟩⟩ 0 = .ok (i, n)) : decode ⟨⟨l⟩⟩ pc = .ok (i, n) := by
  have ha := dw_ag_of l pc
  rw [hb] at ha
  have hk : ∀ hp : 0 < (ByteArray.mk ⟨(b :: t).take 4⟩).size, ((ByteArray.mk ⟨(b :: t).take 4⟩)[0]'hp).toNat ∈ dw_ops := fun _ => hok
  have h3 : Except.bind ((ClassFile.Decoder.instr 0) ⟨⟨(b :: t).take 4⟩⟩ 0) (fun v => Except.ok (v.1, v.2 - 0)) = Except.ok (i, n) := h
  cases hr : (ClassFile.Decoder.instr 0) ⟨⟨(b :: t).take 4⟩⟩ 0 with
  | error e =>
    rw [hr] at h3
    have h4 : (Except.error e : Except ClassFile.DecodeError (ClassFile.Instr × Nat)) = Except.ok (i, n) := h3
    cases h4
  | ok v =>
    obtain ⟨x, q⟩ := v
    rw [hr] at h3
    have h4 : (Except.ok (x, q - 0) : Except ClassFile.DecodeError (ClassFile.Instr × Nat)) = Except.ok (i, n) := h3
    cases h4
    have h2 := dw_opc (pc := pc) ha hk hr
    show Except.bind ((ClassFile.Decoder.instr pc) ⟨⟨l⟩⟩ pc) (fun v => Except.ok (v.1, v.2 - pc)) = _
    have h5 : (ClassFile.Decoder.instr pc) ⟨⟨l⟩⟩ pc = .ok (i, pc + q) := h2
    rw [h5]
    show (Except.ok (i, pc + q - pc) : Except ClassFile.DecodeError (ClassFile.Instr × Nat)) = Except.ok (i, q - 0)
    rw [Nat.add_sub_cancel_left, Nat.sub_zero]
noncomputable def ez_drp (n : Nat) : List UInt8 → List UInt8 := Nat.rec (motive := fun _ => List UInt8 → List UInt8) (fun l => l) (fun _ ih l => List.rec (motive := fun _ => List UInt8) [] (fun _ t _ => ih t) l) n
theorem ez_drp_eq : ∀ (n : Nat) (l : List UInt8), ez_drp n l = l.drop n
  | 0, _ => rfl
  | _ + 1, [] => rfl
  | n + 1, _ :: t => ez_drp_eq n t
def ez_decb0 (bs : ByteArray) (pc : Nat) (i : ClassFile.Instr) : Bool := match decode bs pc with
  | .ok (i', len) => decide (i' = i) && (ez_isSw i || decide (len = ez_ln i))
  | .error _ => false
theorem ez_decb0_ok {bs : ByteArray} {pc : Nat} {i : ClassFile.Instr} (h : ez_decb0 bs pc i = true) : ∃ len, decode bs pc = .ok (i, len) ∧ (ez_isSw i = false → len = ez_ln i) := by
  unfold ez_decb0 at h
  split at h
  · rename_i i' len hq
    simp only [Bool.and_eq_true, Bool.or_eq_true, decide_eq_true_eq] at h
    obtain ⟨rfl, h2⟩ := h
    exact ⟨len, hq, fun z => h2.elim (fun q => by rw [z] at q; cases q) id⟩
  · cases h
def ez_opk (b : UInt8) : Bool := dw_ops.any (fun n => Nat.beq n b.toNat)
theorem ez_opk_ok {b : UInt8} (h : ez_opk b = true) : b.toNat ∈ dw_ops := by
  obtain ⟨n, hn, e⟩ := List.any_eq_true.mp h
  rw [← Nat.eq_of_beq_eq_true e]
  exact hn
noncomputable def ez_decb (bs : ByteArray) (pc : Nat) (i : ClassFile.Instr) : Bool := List.rec (motive := fun _ => Bool) (ez_decb0 bs pc i) (fun b t _ => cond (ez_opk b) (ez_decb0 ⟨⟨(b :: t).take 4⟩⟩ 0 i) (ez_decb0 bs pc i)) (ez_drp pc bs.data.toList)
theorem ez_decb_ok {bs : ByteArray} {pc : Nat} {i : ClassFile.Instr} (h : ez_decb bs pc i = true) : ∃ len, decode bs pc = .ok (i, len) ∧ (ez_isSw i = false → len = ez_ln i) := by
  obtain ⟨⟨l⟩⟩ := bs
  cases hw : ez_drp pc l with
  | nil =>
    have e : ez_decb ⟨⟨l⟩⟩ pc i = ez_decb0 ⟨⟨l⟩⟩ pc i := by
      show List.rec (motive := fun _ => Bool) _ _ (ez_drp pc l) = _
      rw [hw]
    rw [e] at h
    exact ez_decb0_ok h
  | cons b t =>
    have e : ez_decb ⟨⟨l⟩⟩ pc i = cond (ez_opk b) (ez_decb0 ⟨⟨(b :: t).take 4⟩⟩ 0 i) (ez_decb0 ⟨⟨l⟩⟩ pc i) := by
      show List.rec (motive := fun _ => Bool) _ _ (ez_drp pc l) = _
      rw [hw]
    rw [e] at h
    rw [ez_drp_eq] at hw
    cases hk : ez_opk b with
    | false =>
      rw [hk] at h
      exact ez_decb0_ok h
    | true =>
      rw [hk] at h
      obtain ⟨len, h1, h2⟩ := ez_decb0_ok (show ez_decb0 ⟨⟨(b :: t).take 4⟩⟩ 0 i = true from h)
      exact ⟨len, dw_decode hw (ez_opk_ok hk) h1, h2⟩
def ez_retb (rt : Option FieldType) (i : ClassFile.Instr) (a : Nat) : Bool := match i with
  | .ireturn => decide (rt = if a = 0 then some .int else some .boolean)
  | .lreturn => decide (rt = some .long)
  | .return_ => decide (rt = none)
  | _ => true
theorem ez_retb_ok {rt : Option FieldType} {i : ClassFile.Instr} {a : Nat} (h : ez_retb rt i a = true) : (i = .ireturn → rt = if a = 0 then some .int else some .boolean) ∧ (i = .lreturn → rt = some .long) ∧ (i = .return_ → rt = none) := by
  refine ⟨?_, ?_, ?_⟩ <;> intro z <;> subst z <;> exact of_decide_eq_true h
noncomputable def ez_thb (thr : List (Nat × Nat × Nat)) (bs : ByteArray) (mi pc a : Nat) (i : ClassFile.Instr) : Bool := match ez_isThr i with
  | true => decide ((mi, pc, a) ∈ thr)
  | false => ez_decb bs pc i
noncomputable def ez_ok1b (mi : Nat) (q : ez_C) : Bool := match q with
  | (pc, i, a, b, k, v) => ez_thb thr (bytes mi) mi pc a i && ez_cstb (nm mi).cls tb (ml mi) i v && ez_brb i pc a && ez_jkb i pc a && ez_lkb (nm mi).cls tb ncl ct cn nf ty sta host (decide ((nm mi).name = "<init>")) i a b k && ez_retb (ret mi) i a && (!(ez_cl i k) || (decide (a < nM) && ez_ckb tb ncl cn host (nm mi).cls (nm a) (ml a) (decide (hh a = [])) (ret a) i b k))
noncomputable def ez_okLb (mi : Nat) : List ez_C → Bool
  | [] => true
  | q :: cs => ez_ok1b nf ty sta nm bytes ml ret hh tb ncl nM ct cn host thr mi q && (match cs with
    | [] => true
    | q' :: _ => ez_isSw q.2.1 || ez_isThr q.2.1 || decide (q'.1 = q.1 + ez_ln q.2.1)) && ez_okLb mi cs
theorem ez_ok1b_ok (hs : ∀ w ∈ tb, w ∈ tbl) (hg : ez_gen tbl) (hcls : ∀ a, 0 < a → a ≤ ncl → ez_Cls tbl cl nf ty a (cn a) (ct a)) (hwc : ∀ a, a < nM → ez_wc (nm a) (bytes a) (ml a) (ret a) (hh a) ∈ tbl) (hthr : ∀ q ∈ thr, ez_tk exn nm bytes hh tbl strs q.1 q.2.1 q.2.2) {mi : Nat} {q : ez_C} (h : ez_ok1b nf ty sta nm bytes ml ret hh tb ncl nM ct cn host thr mi q = true) : ez_ok1 cl nf ty exn sta nm bytes ml ret hh tbl strs mi q := by
  obtain ⟨pc, i, a, b, k, v⟩ := q
  unfold ez_ok1b at h
  simp only [Bool.and_eq_true] at h
  obtain ⟨⟨⟨⟨⟨⟨h1, h2⟩, h3⟩, h4⟩, h5⟩, h6⟩, h7⟩ := h
  have t1 : ez_isThr i = true → ez_tk exn nm bytes hh tbl strs mi pc a := fun z => by
    unfold ez_thb at h1
    rw [z] at h1
    exact hthr (mi, pc, a) (of_decide_eq_true h1)
  have t2 : ez_isThr i = false → ∃ len, decode (bytes mi) pc = .ok (i, len) ∧ (ez_isSw i = false → len = ez_ln i) := fun z => by
    unfold ez_thb at h1
    rw [z] at h1
    exact ez_decb_ok h1
  have t3 : ez_cl i k = true → ez_ck (nm mi).cls (nm a) (ez_wc (nm a) (bytes a) (ml a) (ret a) (hh a)) (ml a) (hh a = []) (ret a) tbl cl i b k := fun z => by
    rw [z] at h7
    simp only [Bool.not_true, Bool.false_or, Bool.and_eq_true, decide_eq_true_eq] at h7
    exact ez_ckb_ok cl nf ty tbl tb ncl ct cn host hs hcls (fun z => of_decide_eq_true z) (hwc a h7.1) h7.2
  exact ⟨t1, t2, ez_cstb_ok _ _ hs h2, ez_brb_ok h3, ez_jkb_ok h4, ez_lkb_ok _ _ _ _ _ _ _ _ _ hs hg hcls (fun z => of_decide_eq_true z) h5, ez_retb_ok h6, t3⟩
theorem ez_okLb_ok (hs : ∀ w ∈ tb, w ∈ tbl) (hg : ez_gen tbl) (hcls : ∀ a, 0 < a → a ≤ ncl → ez_Cls tbl cl nf ty a (cn a) (ct a)) (hwc : ∀ a, a < nM → ez_wc (nm a) (bytes a) (ml a) (ret a) (hh a) ∈ tbl) (hthr : ∀ q ∈ thr, ez_tk exn nm bytes hh tbl strs q.1 q.2.1 q.2.2) {mi : Nat} : ∀ cs : List ez_C, ez_okLb nf ty sta nm bytes ml ret hh tb ncl nM ct cn host thr mi cs = true → ez_okL cl nf ty exn sta nm bytes ml ret hh tbl strs mi cs
  | [], _ => trivial
  | q :: cs, h => by
    simp only [ez_okLb, Bool.and_eq_true] at h
    obtain ⟨⟨h1, h2⟩, h3⟩ := h
    refine ⟨ez_ok1b_ok _ _ _ _ _ _ _ _ _ _ _ _ _ _ _ _ _ _ _ hs hg hcls hwc hthr h1, ?_, ez_okLb_ok hs hg hcls hwc hthr cs h3⟩
    rintro q' cs' rfl s1 s2
    simp only [s1, s2, Bool.false_or, decide_eq_true_eq] at h2
    exact h2
end EZU
