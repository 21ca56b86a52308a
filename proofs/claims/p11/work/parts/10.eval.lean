/-! A PURE MACHINE for the few instructions that the class, the law and the reference use. Heap: cells made, slots used, tag, length, ints, longs, references (0: null), each by the cell's number (1, 2, ..) and place. -/
abbrev ez_H : Type := Nat × Nat × (Nat → Nat) × (Nat → Nat) × (Nat → Nat → Int32) × (Nat → Nat → Int64) × (Nat → Nat → Nat)
def ez_n (h : ez_H) : Nat := h.1
def ez_u (h : ez_H) : Nat := h.2.1
def ez_t (h : ez_H) : Nat → Nat := h.2.2.1
def ez_l (h : ez_H) : Nat → Nat := h.2.2.2.1
def ez_I (h : ez_H) : Nat → Nat → Int32 := h.2.2.2.2.1
def ez_L (h : ez_H) : Nat → Nat → Int64 := h.2.2.2.2.2.1
def ez_R (h : ez_H) : Nat → Nat → Nat := h.2.2.2.2.2.2
def ez_up {α : Type} (f : Nat → α) (p : Nat) (v : α) : Nat → α := fun q => if q = p then v else f q
def ez_up2 {α : Type} (f : Nat → Nat → α) (p k : Nat) (v : α) : Nat → Nat → α := fun q j => if q = p then (if j = k then v else f q j) else f q j
def ez_row {α : Type} (f : Nat → Nat → α) (p : Nat) (g : Nat → α) : Nat → Nat → α := fun q => if q = p then g else f q
def ez_setI (h : ez_H) (p k : Nat) (v : Int32) : ez_H := (ez_n h, ez_u h, ez_t h, ez_l h, ez_up2 (ez_I h) p k v, ez_L h, ez_R h)
def ez_setL (h : ez_H) (p k : Nat) (v : Int64) : ez_H := (ez_n h, ez_u h, ez_t h, ez_l h, ez_I h, ez_up2 (ez_L h) p k v, ez_R h)
def ez_setR (h : ez_H) (p k : Nat) (v : Nat) : ez_H := (ez_n h, ez_u h, ez_t h, ez_l h, ez_I h, ez_L h, ez_up2 (ez_R h) p k v)
def ez_rowI (h : ez_H) (p : Nat) (g : Nat → Int32) : ez_H := (ez_n h, ez_u h, ez_t h, ez_l h, ez_row (ez_I h) p g, ez_L h, ez_R h)
/-- a new cell: all its places are nought -/
def ez_new (h : ez_H) (tag len slots : Nat) : ez_H := (ez_n h + 1, ez_u h + slots, ez_up (ez_t h) (ez_n h + 1) tag, ez_up (ez_l h) (ez_n h + 1) len, ez_row (ez_I h) (ez_n h + 1) (fun _ => 0), ez_row (ez_L h) (ez_n h + 1) (fun _ => 0), ez_row (ez_R h) (ez_n h + 1) (fun _ => 0))
/-- a cell comes that nobody looks into (an exception) -/
def ez_bump (h : ez_H) : ez_H := (ez_n h + 1, ez_u h + 6, ez_t h, ez_l h, ez_I h, ez_L h, ez_R h)
/-- how a method ends: with an answer or none, or by an exception of a class (its number) -/
abbrev ez_O : Type := Option Value ⊕ Nat
abbrev ez_Q : Type := ez_O → ez_H → Prop
/-- depth, method, pc, locals, stack, heap, what must hold at the end -/
abbrev ez_X : Type := Nat → Nat → Nat → List (Option Value) → List Value → ez_H → ez_Q → Prop
/-- an instruction as it is run: pc, the instruction, three numbers and a constant that a table gives it -/
abbrev ez_C : Type := Nat × ClassFile.Instr × Nat × Nat × Nat × Int32
/-- what needs the stack alone -/
def ez_op (i : ClassFile.Instr) (v : Int32) (st : List Value) : Option (List Value) := match i with
  | .iconst _ => some (.int v :: st)
  | .bipush _ => some (.int v :: st)
  | .sipush _ => some (.int v :: st)
  | .ldc _ => some (.int v :: st)
  | .ldc_w _ => some (.int v :: st)
  | .ldc2_w _ => some (.long v.toInt64 :: st)
  | .lconst _ => some (.long v.toInt64 :: st)
  | .i2b => match st with
    | .int x :: r => some (.int x.toInt8.toInt32 :: r)
    | _ => none
  | .iadd => match st with
    | .int y :: .int x :: r => some (.int (x + y) :: r)
    | _ => none
  | .isub => match st with
    | .int y :: .int x :: r => some (.int (x - y) :: r)
    | _ => none
  | .imul => match st with
    | .int y :: .int x :: r => some (.int (x * y) :: r)
    | _ => none
  | .iand => match st with
    | .int y :: .int x :: r => some (.int (x &&& y) :: r)
    | _ => none
  | .ior => match st with
    | .int y :: .int x :: r => some (.int (x ||| y) :: r)
    | _ => none
  | .ixor => match st with
    | .int y :: .int x :: r => some (.int (x ^^^ y) :: r)
    | _ => none
  | .ishl => match st with
    | .int y :: .int x :: r => some (.int (x <<< (y &&& 31)) :: r)
    | _ => none
  | .ishr => match st with
    | .int y :: .int x :: r => some (.int (x >>> (y &&& 31)) :: r)
    | _ => none
  | .iushr => match st with
    | .int y :: .int x :: r => some (.int ((x.toUInt32 >>> (y.toUInt32 &&& Int32.toUInt32 31)).toInt32) :: r)
    | _ => none
  | .ineg => match st with
    | .int x :: r => some (.int (-x) :: r)
    | _ => none
  | .i2l => match st with
    | .int x :: r => some (.long x.toInt64 :: r)
    | _ => none
  | .l2i => match st with
    | .long x :: r => some (.int x.toInt32 :: r)
    | _ => none
  | .ladd => match st with
    | .long y :: .long x :: r => some (.long (x + y) :: r)
    | _ => none
  | .lsub => match st with
    | .long y :: .long x :: r => some (.long (x - y) :: r)
    | _ => none
  | .lmul => match st with
    | .long y :: .long x :: r => some (.long (x * y) :: r)
    | _ => none
  | .lcmp => match st with
    | .long y :: .long x :: r => some (.int (lg_cmp x y) :: r)
    | _ => none
  | .dup => match st with
    | .int x :: r => some (.int x :: .int x :: r)
    | .ref x :: r => some (.ref x :: .ref x :: r)
    | _ => none
  | .dup2 => match st with
    | .int y :: .ref x :: r => some (.int y :: .ref x :: .int y :: .ref x :: r)
    | .int y :: .int x :: r => some (.int y :: .int x :: .int y :: .int x :: r)
    | _ => none
  | .dup_x1 => match st with
    | .int y :: .ref x :: r => some (.int y :: .ref x :: .int y :: r)
    | .int y :: .int x :: r => some (.int y :: .int x :: .int y :: r)
    | _ => none
  | .pop => match st with
    | .int _ :: r => some r
    | .ref _ :: r => some r
    | _ => none
  | _ => none
/-- what reads a local -/
def ez_ld (i : ClassFile.Instr) (ls : List (Option Value)) (st : List Value) : Option (List Value) := match i with
  | .iload k => match ls.getD k none with
    | some (.int x) => some (.int x :: st)
    | _ => none
  | .iload_n k => match ls.getD k.val none with
    | some (.int x) => some (.int x :: st)
    | _ => none
  | .lload k => match ls.getD k none with
    | some (.long x) => some (.long x :: st)
    | _ => none
  | .lload_n k => match ls.getD k.val none with
    | some (.long x) => some (.long x :: st)
    | _ => none
  | .aload k => match ls.getD k none with
    | some (.ref x) => some (.ref x :: st)
    | some (.retAddr x) => some (.retAddr x :: st)
    | _ => none
  | .aload_n k => match ls.getD k.val none with
    | some (.ref x) => some (.ref x :: st)
    | some (.retAddr x) => some (.retAddr x :: st)
    | _ => none
  | _ => none
/-- a local is set: a long ahead of it is gone -/
def ez_cut (ls : List (Option Value)) (k : Nat) : List (Option Value) := match k with
  | 0 => ls
  | j + 1 => match ls.getD j none with
    | some (.long _) => ls.set j none
    | some (.double _) => ls.set j none
    | _ => ls
/-- what sets a local -/
def ez_st (i : ClassFile.Instr) (v : Int32) (ls : List (Option Value)) (st : List Value) : Option (List (Option Value) × List Value) := match i with
  | .istore k => match st with
    | .int x :: r => some ((ez_cut ls k).set k (some (.int x)), r)
    | _ => none
  | .istore_n k => match st with
    | .int x :: r => some ((ez_cut ls k.val).set k.val (some (.int x)), r)
    | _ => none
  | .lstore k => match st with
    | .long x :: r => some (((ez_cut ls k).set k (some (.long x))).set (k + 1) none, r)
    | _ => none
  | .lstore_n k => match st with
    | .long x :: r => some (((ez_cut ls k.val).set k.val (some (.long x))).set (k.val + 1) none, r)
    | _ => none
  | .astore k => match st with
    | .ref x :: r => some ((ez_cut ls k).set k (some (.ref x)), r)
    | .retAddr x :: r => some ((ez_cut ls k).set k (some (.retAddr x)), r)
    | _ => none
  | .astore_n k => match st with
    | .ref x :: r => some ((ez_cut ls k.val).set k.val (some (.ref x)), r)
    | .retAddr x :: r => some ((ez_cut ls k.val).set k.val (some (.retAddr x)), r)
    | _ => none
  | .iinc k _ => match ls.getD k none with
    | some (.int x) => some ((ez_cut ls k).set k (some (.int (x + v))), st)
    | _ => none
  | _ => none
/-- what a branch asks -/
def ez_br (i : ClassFile.Instr) (st : List Value) : Option (Prop × List Value) := match i with
  | .ifCond c _ => match st with
    | .int x :: r => some ((match c with
      | .eq => x = 0
      | .ne => x ≠ 0
      | .lt => x < 0
      | .ge => 0 ≤ x
      | .gt => 0 < x
      | .le => x ≤ 0), r)
    | _ => none
  | .if_icmp c _ => match st with
    | .int y :: .int x :: r => some ((match c with
      | .eq => x = y
      | .ne => x ≠ y
      | .lt => x < y
      | .ge => y ≤ x
      | .gt => y < x
      | .le => x ≤ y), r)
    | _ => none
  | _ => none
/-- arguments as locals: a long takes two places -/
def ez_lay : List Value → List (Option Value)
  | [] => []
  | .long x :: r => some (.long x) :: none :: ez_lay r
  | .double x :: r => some (.double x) :: none :: ez_lay r
  | v :: r => some v :: ez_lay r
def ez_args (n : Nat) (vs : List Value) : List (Option Value) := ez_lay vs ++ List.replicate (n - (ez_lay vs).length) none
/-- the stack below a call weighs little -/
def ez_few (st : List Value) : Bool := Nat.ble ((st.map fun v => v.category).sum) 8
/-- ahead of where the run goes on -/
def ez_past (sk pc : Nat) : Bool := !(Nat.beq sk 0) && !(Nat.beq sk (pc + 1))
/-- most cells and slots of a run -/
def ez_MC : Nat := 601024
def ez_MS : Nat := 7293034
/-- a receiver is of its class -/
def ez_rcv (h : ez_H) (k : Nat) (vs : List Value) : Prop := match k with
  | 0 => True
  | k + 1 => match vs with
    | .ref p :: _ => ez_t h p = k + 1
    | _ => False
/-- a switch: its cases, then the rest -/
def ez_sw (pc : Nat) (dflt : Int) (x : Int32) (K : Nat → Prop) : List (Int × Int) → Prop
  | [] => K ((pc : Int) + dflt).toNat
  | (c, o) :: r => (x = Int32.ofInt c → K ((pc : Int) + o).toNat) ∧ (¬ x = Int32.ofInt c → ez_sw pc dflt x K r)
def ez_tab (lo : Int) : List Int → List (Int × Int)
  | [] => []
  | o :: r => (lo, o) :: ez_tab (lo + 1) r
/-- what goes on at the next instruction, if something holds -/
def ez_sm (E : Nat → Nat × (Nat → Int32)) (i : ClassFile.Instr) (a b k : Nat) (ls : List (Option Value)) (st : List Value) (h : ez_H) : Option (Prop × List Value × ez_H) := match i with
  | .getfield _ => match st with
    | .ref p :: r => (match k with
      | 0 => some (ez_t h p = a, .int (ez_I h p b) :: r, h)
      | 1 => some (ez_t h p = a, .int (ez_I h p b) :: r, h)
      | 2 => some (ez_t h p = a, .long (ez_L h p b) :: r, h)
      | 3 => some (ez_t h p = a ∧ ez_R h p b ≠ 0, .ref (ez_R h p b) :: r, h)
      | j + 4 => some (ez_t h p = a ∧ ez_R h p b = j + 1, .ref (j + 1) :: r, h))
    | _ => none
  | .putfield _ => (match k with
    | 0 => match st with
      | .int x :: .ref p :: r => some (ez_t h p = a, r, ez_setI h p b x)
      | _ => none
    | 1 => match st with
      | .int x :: .ref p :: r => some (ez_t h p = a ∧ (x = 0 ∨ x = 1), r, ez_setI h p b x)
      | _ => none
    | 2 => match st with
      | .long x :: .ref p :: r => some (ez_t h p = a, r, ez_setL h p b x)
      | _ => none
    | _ + 3 => match st with
      | .ref q :: .ref p :: r => some (ez_t h p = a ∧ q ≠ 0, r, ez_setR h p b q)
      | _ => none)
  | .getstatic _ => some (True, .retAddr a :: st, h)
  | .iaload => match st with
    | .int x :: .ref p :: r => some (ez_t h p = 1000 ∧ vp_in x (ez_l h p), .int (ez_I h p x.toNatClampNeg) :: r, h)
    | .int x :: .retAddr j :: r => some (vp_in x (E j).1, .int ((E j).2 x.toNatClampNeg) :: r, h)
    | _ => none
  | .baload => match st with
    | .int x :: .ref p :: r => some (ez_t h p = 1003 ∧ vp_in x (ez_l h p), .int (ez_I h p x.toNatClampNeg) :: r, h)
    | _ => none
  | .laload => match st with
    | .int x :: .ref p :: r => some (ez_t h p = 1002 ∧ vp_in x (ez_l h p), .long (ez_L h p x.toNatClampNeg) :: r, h)
    | _ => none
  | .iastore => match st with
    | .int y :: .int x :: .ref p :: r => some (ez_t h p = 1000 ∧ vp_in x (ez_l h p), r, ez_setI h p x.toNatClampNeg y)
    | _ => none
  | .bastore => match st with
    | .int y :: .int x :: .ref p :: r => some (ez_t h p = 1003 ∧ vp_in x (ez_l h p), r, ez_setI h p x.toNatClampNeg y.toInt8.toInt32)
    | _ => none
  | .lastore => match st with
    | .long y :: .int x :: .ref p :: r => some (ez_t h p = 1002 ∧ vp_in x (ez_l h p), r, ez_setL h p x.toNatClampNeg y)
    | _ => none
  | .arraylength => match st with
    | .ref p :: r => some (ez_t h p = 1000 ∨ ez_t h p = 1002 ∨ ez_t h p = 1003, .int (nI (ez_l h p)) :: r, h)
    | .retAddr j :: r => some (True, .int (nI (E j).1) :: r, h)
    | _ => none
  | .idiv => match st with
    | .int y :: .int x :: r => some (¬ y = 0, .int (x / y) :: r, h)
    | _ => none
  | .irem => match st with
    | .int y :: .int x :: r => some (¬ y = 0, .int (x - x / y * y) :: r, h)
    | _ => none
  | .newarray _ => match st with
    | .int x :: r => some (¬ x < 0 ∧ x.toNatClampNeg ≤ 200000 ∧ ez_n h + 1 ≤ ez_MC ∧ ez_u h + x.toNatClampNeg ≤ ez_MS, .ref (ez_n h + 1) :: r, ez_new h a x.toNatClampNeg x.toNatClampNeg)
    | _ => none
  | .new _ => some (ez_n h + 1 ≤ ez_MC ∧ ez_u h + b ≤ ez_MS, .ref (ez_n h + 1) :: st, ez_new h a 0 b)
  | .invokespecial _ => (match k with
    | 0 => match st with
      | .ref _ :: r => some (ez_few r = true, r, h)
      | _ => none
    | _ + 1 => none)
  | .invokestatic _ => (match k with
    | 0 => none
    | 1 => match st with
      | .int y :: .int x :: r => some (ez_few r = true, .int (if x < y then y else x) :: r, h)
      | _ => none
    | 2 => match st with
      | .int y :: .int x :: r => some (ez_few r = true, .int (if y < x then y else x) :: r, h)
      | _ => none
    | _ + 3 => match st with
      | .int n :: .int dp :: .ref q :: .int sp :: .ref p :: r => some (ez_few r = true ∧ (ez_t h p = 1000 ∧ ez_t h q = 1000) ∧ ¬ sp < 0 ∧ ¬ dp < 0 ∧ ¬ n < 0 ∧ sp.toNatClampNeg + n.toNatClampNeg ≤ ez_l h p ∧ dp.toNatClampNeg + n.toNatClampNeg ≤ ez_l h q, r, ez_rowI h q (va_cpy (ez_I h p) (ez_I h q) sp.toNatClampNeg dp.toNatClampNeg n.toNatClampNeg))
      | _ => none)
  | _ => none
/-- an end -/
def ez_rt (i : ClassFile.Instr) (a : Nat) (st : List Value) : Option (Prop × Option Value) := match i with
  | .ireturn => match st with
    | [.int x] => some ((match a with
      | 0 => True
      | _ + 1 => x = 0 ∨ x = 1), some (.int x))
    | _ => none
  | .lreturn => match st with
    | [.long x] => some (True, some (.long x))
    | _ => none
  | .return_ => match st with
    | [] => some (True, none)
    | _ => none
  | _ => none
/-- where a jump goes -/
def ez_jp (i : ClassFile.Instr) (pc a : Nat) (st : List Value) : Option ((Nat → Prop) → Prop) × List Value := match i with
  | .goto _ => (some (fun K => K a), st)
  | .tableswitch df lo _ os => match st with
    | .int x :: r => (some (fun K => ez_sw pc df x K (ez_tab lo os.toList)), r)
    | _ => (none, st)
  | .lookupswitch df ps => match st with
    | .int x :: r => (some (fun K => ez_sw pc df x K ps.toList), r)
    | _ => (none, st)
  | _ => (none, st)
/-- a call of a method of the tables -/
def ez_cl (i : ClassFile.Instr) (k : Nat) : Bool := match i with
  | .invokevirtual _ => true
  | .invokespecial _ => (match k with
    | 0 => false
    | _ + 1 => true)
  | .invokestatic _ => (match k with
    | 0 => true
    | _ + 1 => false)
  | _ => false
/-- WHAT MUST HOLD AHEAD OF AN INSTRUCTION. X: what must hold ahead of a call or a jump back; E: arrays that stand outside; ml: how many locals a method has; hn: where an exception of a call at a place is caught (where the run goes on behind the handler's first instruction, the local that it sets). -/
def ez_gw (X : ez_X) (E : Nat → Nat × (Nat → Int32)) (ml : Nat → Nat) (hn : Nat → Nat → Option (Nat × Nat)) (mi d : Nat) : List ez_C → Nat → List (Option Value) → List Value → ez_H → ez_Q → Prop
  | [], _, _, _, _, _ => False
  | (pc, i, a, b, k, v) :: cs, sk, ls, st, h, Q => match ez_past sk pc with
    | true => ez_gw X E ml hn mi d cs sk ls st h Q
    | false => match ez_op i v st with
      | some st' => ez_gw X E ml hn mi d cs 0 ls st' h Q
      | none => match ez_ld i ls st with
        | some st' => ez_gw X E ml hn mi d cs 0 ls st' h Q
        | none => match ez_st i v ls st with
          | some (ls', st') => ez_gw X E ml hn mi d cs 0 ls' st' h Q
          | none => match ez_br i st with
            | some (c, st') => (c → (match Nat.blt pc a with
                | true => ez_gw X E ml hn mi d cs (a + 1) ls st' h Q
                | false => X d mi a ls st' h Q)) ∧ (¬ c → ez_gw X E ml hn mi d cs 0 ls st' h Q)
            | none => match ez_sm E i a b k ls st h with
              | some (c, st', h') => c ∧ ez_gw X E ml hn mi d cs 0 ls st' h' Q
              | none => match ez_rt i a st with
                | some (c, r) => c ∧ Q (.inl r) h
                | none => match ez_jp i pc a st with
                  | (some J, st') => J (fun t => match Nat.blt pc t with
                    | true => ez_gw X E ml hn mi d cs (t + 1) ls st' h Q
                    | false => X d mi t ls st' h Q)
                  | (none, _) => match ez_cl i k with
                    | true => (match d with
                      | 0 => False
                      | d' + 1 => (ez_few (st.drop b) = true ∧ Nat.ble (ez_lay (st.take b).reverse).length (ml a) = true ∧ Nat.beq (st.take b).reverse.length b = true ∧ ez_rcv h k (st.take b).reverse) ∧ X d' a 0 (ez_args (ml a) (st.take b).reverse) [] h (fun o h' => match o with
                        | .inl none => ez_gw X E ml hn mi d cs 0 ls (st.drop b) h' Q
                        | .inl (some w) => ez_gw X E ml hn mi d cs 0 ls (w :: st.drop b) h' Q
                        | .inr x => match hn pc x with
                          | none => Q (.inr x) h'
                          | some (t, j) => (match t with
                            | 0 => False
                            | t' + 1 => ez_gw X E ml hn mi d cs (t' + 2) ((ez_cut ls j).set j none) [] h' Q)))
                    | false => match i with
                      | .athrow => (match st with
                        | [] => (ez_n h + 1 ≤ ez_MC ∧ ez_u h + 6 ≤ ez_MS) ∧ Q (.inr a) (ez_bump h)
                        | _ :: _ => False)
                      | _ => False
