/-! ALL TOGETHER: what the pure machine must do, the machine does -/
def ez_isSw (i : ClassFile.Instr) : Bool := match i with
  | .tableswitch _ _ _ _ => true
  | .lookupswitch _ _ => true
  | _ => false
def ez_isThr (i : ClassFile.Instr) : Bool := match i with
  | .athrow => true
  | _ => false
section EZC
variable (l : Launch) (D : va_G) (cl : List vw_C) (nf : Nat → Nat) (ty : Nat → Nat → FieldType) (dA : Nat → ClassId) (B : Nat) (ea : Nat → Nat) (exn : Nat → String) (E : Nat → Nat × (Nat → Int32)) (sta : Nat → String × String × String) (nm : Nat → MethodName) (bytes : Nat → ByteArray) (ml : Nat → Nat) (ret : Nat → Option FieldType) (hh : Nat → List (Nat × Nat × Nat × Nat)) (tbl : List Cond) (strs : List (String × Nat × String)) (hn : Nat → Nat → Nat → Option (Nat × Nat)) (code : Nat → List ez_C)
/-- a throw: its five instructions, and what links them -/
def ez_tk (mi pc x : Nat) : Prop := ∃ (i0 i1 i2 : Nat) (tx : String), decode (bytes mi) pc = .ok (.new i0, 3) ∧ decode (bytes mi) (pc + 3) = .ok (.dup, 1) ∧ decode (bytes mi) (pc + 4) = .ok (.ldc i1, 2) ∧ decode (bytes mi) (pc + 6) = .ok (.invokespecial i2, 3) ∧ decode (bytes mi) (pc + 9) = .ok (.athrow, 1) ∧ ((nm mi).cls, i1, tx) ∈ strs ∧ Bundle.fit (exn x) = true ∧
  (∀ w ∈ Bundle.ownAtoms (nm mi).cls i2 (exn x) ez_up3, w ∈ tbl ∨ w ∈ ez_thw) ∧ Cond.classLink (nm mi).cls i0 (exn x) ∈ tbl ∧ Cond.initialized (exn x) ∈ tbl ∧ hh mi = []
/-- an entry of the tables is what the code has there -/
def ez_ok1 (mi : Nat) (q : ez_C) : Prop := match q with
  | (pc, i, a, b, k, v) => (ez_isThr i = true → ez_tk exn nm bytes hh tbl strs mi pc a) ∧ (ez_isThr i = false → ∃ len, decode (bytes mi) pc = .ok (i, len) ∧ (ez_isSw i = false → len = ez_ln i)) ∧ ez_cst (nm mi).cls tbl (ml mi) i v ∧ (∀ cn off, i = .ifCond cn off ∨ i = .if_icmp cn off → (pc : Int) + off = (a : Int)) ∧ ez_jk i pc a ∧ ez_lk (nm mi).cls tbl cl nf ty sta ((nm mi).name = "<init>") i a b k ∧
    ((i = .ireturn → ret mi = if a = 0 then some .int else some .boolean) ∧ (i = .lreturn → ret mi = some .long) ∧ (i = .return_ → ret mi = none)) ∧ (ez_cl i k = true → ez_ck (nm mi).cls (nm a) (ez_wc (nm a) (bytes a) (ml a) (ret a) (hh a)) (ml a) (hh a = []) (ret a) tbl cl i b k)
def ez_okL (mi : Nat) : List ez_C → Prop
  | [] => True
  | q :: cs => ez_ok1 cl nf ty exn sta nm bytes ml ret hh tbl strs mi q ∧ (∀ q' cs', cs = q' :: cs' → ez_isSw q.2.1 = false → ez_isThr q.2.1 = false → q'.1 = q.1 + ez_ln q.2.1) ∧ ez_okL mi cs
/-- where exceptions are caught -/
def ez_okH (mi : Nat) : Prop := ∀ pc x, (hn mi pc x = none → hh mi = []) ∧ ∀ t j, hn mi pc x = some (t + 1, j) → ∃ (pre : List (Nat × Nat × Nat × Nat)) (sE eE hp ct : Nat) (rest : List (Nat × Nat × Nat × Nat)), hh mi = pre ++ (sE, eE, hp, ct) :: rest ∧ (sE ≤ pc ∧ pc < eE) ∧ ct ≠ 0 ∧ Cond.classLink (nm mi).cls ct (exn x) ∈ tbl ∧ Cond.castable (exn x) (exn x) ∈ tbl ∧
  (∀ y ∈ pre, (y.1 ≤ pc ∧ pc < y.2.1) ∧ y.2.2.2 ≠ 0 ∧ ∃ n', Cond.classLink (nm mi).cls y.2.2.2 n' ∈ tbl ∧ Cond.not (Cond.castable (exn x) n') ∈ tbl) ∧ ((∃ jj : Fin 4, decode (bytes mi) hp = .ok (.astore_n jj, 1) ∧ jj.val = j ∧ t + 1 = hp + 1) ∨ (decode (bytes mi) hp = .ok (.astore j, 2) ∧ t + 1 = hp + 2)) ∧ j < ml mi
def ez_cur (cs : List ez_C) (sk : Nat) : Nat := match sk with
  | 0 => (match cs with
    | [] => 0
    | q :: _ => q.1)
  | t + 1 => t
end EZC
theorem ez_notCast {args : Array Value} {s : State} {A C : String} {cA cC : ClassId} (h : (Cond.not (Cond.castable A C)).before args s = true) (hA : s.vm.findClass A = some cA) (hC : s.vm.findClass C = some cC) : s.vm.assignable cA cC = false := by
  cases hz : s.vm.assignable cA cC with
  | false => rfl
  | true => simp [Cond.before, Cond.holds, Cond.value, hA, hC, hz] at h
