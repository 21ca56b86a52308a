section
/-! A PURE MACHINE for the few instructions that the class, the law and the reference use. Heap: cells made, slots used, tag, length, ints, longs, references (0: null), each by the cell's number (1, 2, ..) and place. -/
abbrev ez_H : Type := Nat × Nat × (Nat → Nat) × (Nat → Nat) × (Nat → Nat → Int32) × (Nat → Nat → Int64) × (Nat → Nat → Nat)
noncomputable def ez_n (h : ez_H) : Nat := h.1
noncomputable def ez_u (h : ez_H) : Nat := h.2.1
noncomputable def ez_t (h : ez_H) : Nat → Nat := h.2.2.1
noncomputable def ez_l (h : ez_H) : Nat → Nat := h.2.2.2.1
noncomputable def ez_I (h : ez_H) : Nat → Nat → Int32 := h.2.2.2.2.1
noncomputable def ez_L (h : ez_H) : Nat → Nat → Int64 := h.2.2.2.2.2.1
noncomputable def ez_R (h : ez_H) : Nat → Nat → Nat := h.2.2.2.2.2.2
noncomputable def ez_up {α : Type} (f : Nat → α) (p : Nat) (v : α) : Nat → α := fun q => if q = p then v else f q
noncomputable def ez_up2 {α : Type} (f : Nat → Nat → α) (p k : Nat) (v : α) : Nat → Nat → α := fun q j => if q = p then (if j = k then v else f q j) else f q j
noncomputable def ez_row {α : Type} (f : Nat → Nat → α) (p : Nat) (g : Nat → α) : Nat → Nat → α := fun q => if q = p then g else f q
noncomputable def ez_setI (h : ez_H) (p k : Nat) (v : Int32) : ez_H := (ez_n h, ez_u h, ez_t h, ez_l h, ez_up2 (ez_I h) p k v, ez_L h, ez_R h)
noncomputable def ez_setL (h : ez_H) (p k : Nat) (v : Int64) : ez_H := (ez_n h, ez_u h, ez_t h, ez_l h, ez_I h, ez_up2 (ez_L h) p k v, ez_R h)
noncomputable def ez_setR (h : ez_H) (p k : Nat) (v : Nat) : ez_H := (ez_n h, ez_u h, ez_t h, ez_l h, ez_I h, ez_L h, ez_up2 (ez_R h) p k v)
noncomputable def ez_rowI (h : ez_H) (p : Nat) (g : Nat → Int32) : ez_H := (ez_n h, ez_u h, ez_t h, ez_l h, ez_row (ez_I h) p g, ez_L h, ez_R h)
/-- a new cell: all its places are nought -/
noncomputable def ez_new (h : ez_H) (tag len slots : Nat) : ez_H := (ez_n h + 1, ez_u h + slots, ez_up (ez_t h) (ez_n h + 1) tag, ez_up (ez_l h) (ez_n h + 1) len, ez_row (ez_I h) (ez_n h + 1) (fun _ => 0), ez_row (ez_L h) (ez_n h + 1) (fun _ => 0), ez_row (ez_R h) (ez_n h + 1) (fun _ => 0))
/-- a cell comes that nobody looks into (an exception) -/
noncomputable def ez_bump (h : ez_H) : ez_H := (ez_n h + 1, ez_u h + 6, ez_t h, ez_l h, ez_I h, ez_L h, ez_R h)
/-- how a method ends: with an answer or none, or by an exception of a class (its number) -/
abbrev ez_O : Type := Option Value ⊕ Nat
abbrev ez_Q : Type := ez_O → ez_H → Prop
/-- depth, method, pc, locals, stack, heap, what must hold at the end -/
abbrev ez_X : Type := Nat → Nat → Nat → List (Option Value) → List Value → ez_H → ez_Q → Prop
/-- an instruction as it is run: pc, the instruction, three numbers and a constant that a table gives it -/
abbrev ez_C : Type := Nat × ClassFile.Instr × Nat × Nat × Nat × Int32
/-- what needs the stack alone -/
noncomputable def ez_op (i : ClassFile.Instr) (v : Int32) (st : List Value) : Option (List Value) := match i with
  | .iconst _ => some (.int v :: st)
  | .bipush _ => some (.int v :: st)
  | .sipush _ => some (.int v :: st)
  | .ldc _ => some (.int v :: st)
  | .ldc_w _ => some (.int v :: st)
  | .ldc2_w _ => some (.long v.toInt64 :: st)
  | .lconst _ => some (.long v.toInt64 :: st)
  | .i2b => match st with
    | .int x :: r => some (.int x.toInt8.toInt32 :: r)
    | _ => none
  | .iadd => match st with
    | .int y :: .int x :: r => some (.int (x + y) :: r)
    | _ => none
  | .isub => match st with
    | .int y :: .int x :: r => some (.int (x - y) :: r)
    | _ => none
  | .imul => match st with
    | .int y :: .int x :: r => some (.int (x * y) :: r)
    | _ => none
  | .iand => match st with
    | .int y :: .int x :: r => some (.int (x &&& y) :: r)
    | _ => none
  | .ior => match st with
    | .int y :: .int x :: r => some (.int (x ||| y) :: r)
    | _ => none
  | .ixor => match st with
    | .int y :: .int x :: r => some (.int (x ^^^ y) :: r)
    | _ => none
  | .ishl => match st with
    | .int y :: .int x :: r => some (.int (x <<< (y &&& 31)) :: r)
    | _ => none
  | .ishr => match st with
    | .int y :: .int x :: r => some (.int (x >>> (y &&& 31)) :: r)
    | _ => none
  | .iushr => match st with
    | .int y :: .int x :: r => some (.int ((x.toUInt32 >>> (y.toUInt32 &&& Int32.toUInt32 31)).toInt32) :: r)
    | _ => none
  | .ineg => match st with
    | .int x :: r => some (.int (-x) :: r)
    | _ => none
  | .i2l => match st with
    | .int x :: r => some (.long x.toInt64 :: r)
    | _ => none
  | .l2i => match st with
    | .long x :: r => some (.int x.toInt32 :: r)
    | _ => none
  | .ladd => match st with
    | .long y :: .long x :: r => some (.long (x + y) :: r)
    | _ => none
  | .lsub => match st with
    | .long y :: .long x :: r => some (.long (x - y) :: r)
    | _ => none
  | .lmul => match st with
    | .long y :: .long x :: r => some (.long (x * y) :: r)
    | _ => none
  | .lcmp => match st with
    | .long y :: .long x :: r => some (.int (lg_cmp x y) :: r)
    | _ => none
  | .dup => match st with
    | .int x :: r => some (.int x :: .int x :: r)
    | .ref x :: r => some (.ref x :: .ref x :: r)
    | _ => none
  | .dup2 => match st with
    | .int y :: .ref x :: r => some (.int y :: .ref x :: .int y :: .ref x :: r)
    | .int y :: .int x :: r => some (.int y :: .int x :: .int y :: .int x :: r)
    | _ => none
  | .dup_x1 => match st with
    | .int y :: .ref x :: r => some (.int y :: .ref x :: .int y :: r)
    | .int y :: .int x :: r => some (.int y :: .int x :: .int y :: r)
    | _ => none
  | .pop => match st with
    | .int _ :: r => some r
    | .ref _ :: r => some r
    | _ => none
  | _ => none
/-- what reads a local -/
noncomputable def ez_ld (i : ClassFile.Instr) (ls : List (Option Value)) (st : List Value) : Option (List Value) := match i with
  | .iload k => match ls.getD k none with
    | some (.int x) => some (.int x :: st)
    | _ => none
  | .iload_n k => match ls.getD k.val none with
    | some (.int x) => some (.int x :: st)
    | _ => none
  | .lload k => match ls.getD k none with
    | some (.long x) => some (.long x :: st)
    | _ => none
  | .lload_n k => match ls.getD k.val none with
    | some (.long x) => some (.long x :: st)
    | _ => none
  | .aload k => match ls.getD k none with
    | some (.ref x) => some (.ref x :: st)
    | some (.retAddr x) => some (.retAddr x :: st)
    | _ => none
  | .aload_n k => match ls.getD k.val none with
    | some (.ref x) => some (.ref x :: st)
    | some (.retAddr x) => some (.retAddr x :: st)
    | _ => none
  | _ => none
/-- a local is set: a long ahead of it is gone -/
noncomputable def ez_cut (ls : List (Option Value)) (k : Nat) : List (Option Value) := match k with
  | 0 => ls
  | j + 1 => match ls.getD j none with
    | some (.long _) => ls.set j none
    | some (.double _) => ls.set j none
    | _ => ls
/-- what sets a local -/
noncomputable def ez_st (i : ClassFile.Instr) (v : Int32) (ls : List (Option Value)) (st : List Value) : Option (List (Option Value) × List Value) := match i with
  | .istore k => match st with
    | .int x :: r => some ((ez_cut ls k).set k (some (.int x)), r)
    | _ => none
  | .istore_n k => match st with
    | .int x :: r => some ((ez_cut ls k.val).set k.val (some (.int x)), r)
    | _ => none
  | .lstore k => match st with
    | .long x :: r => some (((ez_cut ls k).set k (some (.long x))).set (k + 1) none, r)
    | _ => none
  | .lstore_n k => match st with
    | .long x :: r => some (((ez_cut ls k.val).set k.val (some (.long x))).set (k.val + 1) none, r)
    | _ => none
  | .astore k => match st with
    | .ref x :: r => some ((ez_cut ls k).set k (some (.ref x)), r)
    | .retAddr x :: r => some ((ez_cut ls k).set k (some (.retAddr x)), r)
    | _ => none
  | .astore_n k => match st with
    | .ref x :: r => some ((ez_cut ls k.val).set k.val (some (.ref x)), r)
    | .retAddr x :: r => some ((ez_cut ls k.val).set k.val (some (.retAddr x)), r)
    | _ => none
  | .iinc k _ => match ls.getD k none with
    | some (.int x) => some ((ez_cut ls k).set k (some (.int (x + v))), st)
    | _ => none
  | _ => none
/-- what a branch asks -/
noncomputable def ez_br (i : ClassFile.Instr) (st : List Value) : Option (Prop × List Value) := match i with
  | .ifCond c _ => match st with
    | .int x :: r => some ((match c with
      | .eq => x = 0
      | .ne => x ≠ 0
      | .lt => x < 0
      | .ge => 0 ≤ x
      | .gt => 0 < x
      | .le => x ≤ 0), r)
    | _ => none
  | .if_icmp c _ => match st with
    | .int y :: .int x :: r => some ((match c with
      | .eq => x = y
      | .ne => x ≠ y
      | .lt => x < y
      | .ge => y ≤ x
      | .gt => y < x
      | .le => x ≤ y), r)
    | _ => none
  | _ => none
/-- arguments as locals: a long takes two places -/
noncomputable def ez_lay : List Value → List (Option Value)
  | [] => []
  | .long x :: r => some (.long x) :: none :: ez_lay r
  | .double x :: r => some (.double x) :: none :: ez_lay r
  | v :: r => some v :: ez_lay r
noncomputable def ez_args (n : Nat) (vs : List Value) : List (Option Value) := ez_lay vs ++ List.replicate (n - (ez_lay vs).length) none
/-- the stack below a call weighs little -/
noncomputable def ez_few (st : List Value) : Bool := Nat.ble ((st.map fun v => v.category).sum) 8
/-- ahead of where the run goes on -/
noncomputable def ez_past (sk pc : Nat) : Bool := !(Nat.beq sk 0) && !(Nat.beq sk (pc + 1))
/-- most cells and slots of a run -/
noncomputable def ez_MC : Nat := 601024
noncomputable def ez_MS : Nat := 7293034
/-- a receiver is of its class -/
def ez_rcv (h : ez_H) (k : Nat) (vs : List Value) : Prop := match k with
  | 0 => True
  | k + 1 => match vs with
    | .ref p :: _ => ez_t h p = k + 1
    | _ => False
/-- a switch: its cases, then the rest -/
def ez_sw (pc : Nat) (dflt : Int) (x : Int32) (K : Nat → Prop) : List (Int × Int) → Prop
  | [] => K ((pc : Int) + dflt).toNat
  | (c, o) :: r => (x = Int32.ofInt c → K ((pc : Int) + o).toNat) ∧ (¬ x = Int32.ofInt c → ez_sw pc dflt x K r)
noncomputable def ez_tab (lo : Int) : List Int → List (Int × Int)
  | [] => []
  | o :: r => (lo, o) :: ez_tab (lo + 1) r
/-- what goes on at the next instruction, if something holds -/
noncomputable def ez_sm (E : Nat → Nat × (Nat → Int32)) (i : ClassFile.Instr) (a b k : Nat) (ls : List (Option Value)) (st : List Value) (h : ez_H) : Option (Prop × List Value × ez_H) := match i with
  | .getfield _ => match st with
    | .ref p :: r => (match k with
      | 0 => some (ez_t h p = a, .int (ez_I h p b) :: r, h)
      | 1 => some (ez_t h p = a, .int (ez_I h p b) :: r, h)
      | 2 => some (ez_t h p = a, .long (ez_L h p b) :: r, h)
      | 3 => some (ez_t h p = a ∧ ez_R h p b ≠ 0, .ref (ez_R h p b) :: r, h)
      | j + 4 => some (ez_t h p = a ∧ ez_R h p b = j + 1, .ref (j + 1) :: r, h))
    | _ => none
  | .putfield _ => (match k with
    | 0 => match st with
      | .int x :: .ref p :: r => some (ez_t h p = a, r, ez_setI h p b x)
      | _ => none
    | 1 => match st with
      | .int x :: .ref p :: r => some (ez_t h p = a ∧ (x = 0 ∨ x = 1), r, ez_setI h p b x)
      | _ => none
    | 2 => match st with
      | .long x :: .ref p :: r => some (ez_t h p = a, r, ez_setL h p b x)
      | _ => none
    | _ + 3 => match st with
      | .ref q :: .ref p :: r => some (ez_t h p = a ∧ q ≠ 0, r, ez_setR h p b q)
      | _ => none)
  | .getstatic _ => some (True, .retAddr a :: st, h)
  | .iaload => match st with
    | .int x :: .ref p :: r => some (ez_t h p = 1000 ∧ vp_in x (ez_l h p), .int (ez_I h p x.toNatClampNeg) :: r, h)
    | .int x :: .retAddr j :: r => some (vp_in x (E j).1, .int ((E j).2 x.toNatClampNeg) :: r, h)
    | _ => none
  | .baload => match st with
    | .int x :: .ref p :: r => some (ez_t h p = 1003 ∧ vp_in x (ez_l h p), .int (ez_I h p x.toNatClampNeg) :: r, h)
    | _ => none
  | .laload => match st with
    | .int x :: .ref p :: r => some (ez_t h p = 1002 ∧ vp_in x (ez_l h p), .long (ez_L h p x.toNatClampNeg) :: r, h)
    | _ => none
  | .iastore => match st with
    | .int y :: .int x :: .ref p :: r => some (ez_t h p = 1000 ∧ vp_in x (ez_l h p), r, ez_setI h p x.toNatClampNeg y)
    | _ => none
  | .bastore => match st with
    | .int y :: .int x :: .ref p :: r => some (ez_t h p = 1003 ∧ vp_in x (ez_l h p), r, ez_setI h p x.toNatClampNeg y.toInt8.toInt32)
    | _ => none
  | .lastore => match st with
    | .long y :: .int x :: .ref p :: r => some (ez_t h p = 1002 ∧ vp_in x (ez_l h p), r, ez_setL h p x.toNatClampNeg y)
    | _ => none
  | .arraylength => match st with
    | .ref p :: r => some (ez_t h p = 1000 ∨ ez_t h p = 1002 ∨ ez_t h p = 1003, .int (nI (ez_l h p)) :: r, h)
    | .retAddr j :: r => some (True, .int (nI (E j).1) :: r, h)
    | _ => none
  | .idiv => match st with
    | .int y :: .int x :: r => some (¬ y = 0, .int (x / y) :: r, h)
    | _ => none
  | .irem => match st with
    | .int y :: .int x :: r => some (¬ y = 0, .int (x - x / y * y) :: r, h)
    | _ => none
  | .newarray _ => match st with
    | .int x :: r => some (¬ x < 0 ∧ x.toNatClampNeg ≤ 200000 ∧ ez_n h + 1 ≤ ez_MC ∧ ez_u h + x.toNatClampNeg ≤ ez_MS, .ref (ez_n h + 1) :: r, ez_new h a x.toNatClampNeg x.toNatClampNeg)
    | _ => none
  | .new _ => some (ez_n h + 1 ≤ ez_MC ∧ ez_u h + b ≤ ez_MS, .ref (ez_n h + 1) :: st, ez_new h a 0 b)
  | .invokespecial _ => (match k with
    | 0 => match st with
      | .ref _ :: r => some (ez_few r = true, r, h)
      | _ => none
    | _ + 1 => none)
  | .invokestatic _ => (match k with
    | 0 => none
    | 1 => match st with
      | .int y :: .int x :: r => some (ez_few r = true, .int (if x < y then y else x) :: r, h)
      | _ => none
    | 2 => match st with
      | .int y :: .int x :: r => some (ez_few r = true, .int (if y < x then y else x) :: r, h)
      | _ => none
    | _ + 3 => match st with
      | .int n :: .int dp :: .ref q :: .int sp :: .ref p :: r => some (ez_few r = true ∧ (ez_t h p = 1000 ∧ ez_t h q = 1000) ∧ ¬ sp < 0 ∧ ¬ dp < 0 ∧ ¬ n < 0 ∧ sp.toNatClampNeg + n.toNatClampNeg ≤ ez_l h p ∧ dp.toNatClampNeg + n.toNatClampNeg ≤ ez_l h q, r, ez_rowI h q (va_cpy (ez_I h p) (ez_I h q) sp.toNatClampNeg dp.toNatClampNeg n.toNatClampNeg))
      | _ => none)
  | _ => none
/-- an end -/
noncomputable def ez_rt (i : ClassFile.Instr) (a : Nat) (st : List Value) : Option (Prop × Option Value) := match i with
  | .ireturn => match st with
    | [.int x] => some ((match a with
      | 0 => True
      | _ + 1 => x = 0 ∨ x = 1), some (.int x))
    | _ => none
  | .lreturn => match st with
    | [.long x] => some (True, some (.long x))
    | _ => none
  | .return_ => match st with
    | [] => some (True, none)
    | _ => none
  | _ => none
/-- where a jump goes -/
noncomputable def ez_jp (i : ClassFile.Instr) (pc a : Nat) (st : List Value) : Option ((Nat → Prop) → Prop) × List Value := match i with
  | .goto _ => (some (fun K => K a), st)
  | .tableswitch df lo _ os => match st with
    | .int x :: r => (some (fun K => ez_sw pc df x K (ez_tab lo os.toList)), r)
    | _ => (none, st)
  | .lookupswitch df ps => match st with
    | .int x :: r => (some (fun K => ez_sw pc df x K ps.toList), r)
    | _ => (none, st)
  | _ => (none, st)
/-- a call of a method of the tables -/
noncomputable def ez_cl (i : ClassFile.Instr) (k : Nat) : Bool := match i with
  | .invokevirtual _ => true
  | .invokespecial _ => (match k with
    | 0 => false
    | _ + 1 => true)
  | .invokestatic _ => (match k with
    | 0 => true
    | _ + 1 => false)
  | _ => false
/-- WHAT MUST HOLD AHEAD OF AN INSTRUCTION. X: what must hold ahead of a call or a jump back; E: arrays that stand outside; ml: how many locals a method has; hn: where an exception of a call at a place is caught (where the run goes on behind the handler's first instruction, the local that it sets). -/
def ez_gw (X : ez_X) (E : Nat → Nat × (Nat → Int32)) (ml : Nat → Nat) (hn : Nat → Nat → Option (Nat × Nat)) (mi d : Nat) : List ez_C → Nat → List (Option Value) → List Value → ez_H → ez_Q → Prop
  | [], _, _, _, _, _ => False
  | (pc, i, a, b, k, v) :: cs, sk, ls, st, h, Q => match ez_past sk pc with
    | true => ez_gw X E ml hn mi d cs sk ls st h Q
    | false => match ez_op i v st with
      | some st' => ez_gw X E ml hn mi d cs 0 ls st' h Q
      | none => match ez_ld i ls st with
        | some st' => ez_gw X E ml hn mi d cs 0 ls st' h Q
        | none => match ez_st i v ls st with
          | some (ls', st') => ez_gw X E ml hn mi d cs 0 ls' st' h Q
          | none => match ez_br i st with
            | some (c, st') => (c → (match Nat.blt pc a with
                | true => ez_gw X E ml hn mi d cs (a + 1) ls st' h Q
                | false => X d mi a ls st' h Q)) ∧ (¬ c → ez_gw X E ml hn mi d cs 0 ls st' h Q)
            | none => match ez_sm E i a b k ls st h with
              | some (c, st', h') => c ∧ ez_gw X E ml hn mi d cs 0 ls st' h' Q
              | none => match ez_rt i a st with
                | some (c, r) => c ∧ Q (.inl r) h
                | none => match ez_jp i pc a st with
                  | (some J, st') => J (fun t => match Nat.blt pc t with
                    | true => ez_gw X E ml hn mi d cs (t + 1) ls st' h Q
                    | false => X d mi t ls st' h Q)
                  | (none, _) => match ez_cl i k with
                    | true => (match d with
                      | 0 => False
                      | d' + 1 => (ez_few (st.drop b) = true ∧ Nat.ble (ez_lay (st.take b).reverse).length (ml a) = true ∧ Nat.beq (st.take b).reverse.length b = true ∧ ez_rcv h k (st.take b).reverse) ∧ X d' a 0 (ez_args (ml a) (st.take b).reverse) [] h (fun o h' => match o with
                        | .inl none => ez_gw X E ml hn mi d cs 0 ls (st.drop b) h' Q
                        | .inl (some w) => ez_gw X E ml hn mi d cs 0 ls (w :: st.drop b) h' Q
                        | .inr x => match hn pc x with
                          | none => Q (.inr x) h'
                          | some (t, j) => (match t with
                            | 0 => False
                            | t' + 1 => ez_gw X E ml hn mi d cs (t' + 2) ((ez_cut ls j).set j none) [] h' Q)))
                    | false => match i with
                      | .athrow => (match st with
                        | [] => (ez_n h + 1 ≤ ez_MC ∧ ez_u h + 6 ≤ ez_MS) ∧ Q (.inr a) (ez_bump h)
                        | _ :: _ => False)
                      | _ => False
end
section
def ez_Mono (X : ez_X) : Prop := ∀ (d mi pc : Nat) (ls : List (Option Value)) (st : List Value) (h : ez_H) (Q Q' : ez_Q), (∀ o h', Q o h' → Q' o h') → X d mi pc ls st h Q → X d mi pc ls st h Q'
theorem ez_sw_mono {pc : Nat} {df : Int} {x : Int32} {K K' : Nat → Prop} (hK : ∀ t, K t → K' t) : ∀ l : List (Int × Int), ez_sw pc df x K l → ez_sw pc df x K' l
  | [], H => hK _ H
  | (_, _) :: r, H => ⟨fun q => hK _ (H.1 q), fun q => ez_sw_mono hK r (H.2 q)⟩
theorem ez_jp_mono {i : ClassFile.Instr} {pc a : Nat} {st st' : List Value} {J : (Nat → Prop) → Prop} (hJ : ez_jp i pc a st = (some J, st')) {K K' : Nat → Prop} (hK : ∀ t, K t → K' t) (H : J K) : J K' := by
  unfold ez_jp at hJ
  split at hJ
  · cases hJ; exact hK _ H
  · split at hJ
    · cases hJ; exact ez_sw_mono hK _ H
    · cases hJ
  · split at hJ
    · cases hJ; exact ez_sw_mono hK _ H
    · cases hJ
  · cases hJ
set_option maxHeartbeats 1000000 in
theorem ez_gw_mono {X Y : ez_X} (hXY : ∀ (d mi pc : Nat) (ls : List (Option Value)) (st : List Value) (h : ez_H) (Q : ez_Q), X d mi pc ls st h Q → Y d mi pc ls st h Q) (hY : ez_Mono Y) {E : Nat → Nat × (Nat → Int32)} {ml : Nat → Nat} {hn : Nat → Nat → Option (Nat × Nat)} {mi d : Nat} :
    ∀ (cs : List ez_C) (sk : Nat) (ls : List (Option Value)) (st : List Value) (h : ez_H) (Q Q' : ez_Q), (∀ o h', Q o h' → Q' o h') → ez_gw X E ml hn mi d cs sk ls st h Q → ez_gw Y E ml hn mi d cs sk ls st h Q' := by
  intro cs
  induction cs with
  | nil => intro sk ls st h Q Q' hQ H; exact H
  | cons e cs ih =>
    obtain ⟨pc, i, a, b, k, v⟩ := e
    intro sk ls st h Q Q' hQ H
    have hj : ∀ t st', (match Nat.blt pc t with
        | true => ez_gw X E ml hn mi d cs (t + 1) ls st' h Q
        | false => X d mi t ls st' h Q) → (match Nat.blt pc t with
        | true => ez_gw Y E ml hn mi d cs (t + 1) ls st' h Q'
        | false => Y d mi t ls st' h Q') := by
      intro t st' q
      cases hb : Nat.blt pc t with
      | true => simp only [hb] at q ⊢; exact ih _ _ _ _ _ _ hQ q
      | false => simp only [hb] at q ⊢; exact hY _ _ _ _ _ _ _ _ hQ (hXY _ _ _ _ _ _ _ q)
    unfold ez_gw at H ⊢
    cases h1 : ez_past sk pc with
    | true => simp only [h1] at H ⊢; exact ih _ _ _ _ _ _ hQ H
    | false =>
      simp only [h1] at H ⊢
      cases h2 : ez_op i v st with
      | some st' => simp only [h2] at H ⊢; exact ih _ _ _ _ _ _ hQ H
      | none =>
        simp only [h2] at H ⊢
        cases h3 : ez_ld i ls st with
        | some st' => simp only [h3] at H ⊢; exact ih _ _ _ _ _ _ hQ H
        | none =>
          simp only [h3] at H ⊢
          cases h4 : ez_st i v ls st with
          | some q => obtain ⟨ls', st'⟩ := q; simp only [h4] at H ⊢; exact ih _ _ _ _ _ _ hQ H
          | none =>
            simp only [h4] at H ⊢
            cases h5 : ez_br i st with
            | some q =>
              obtain ⟨c, st'⟩ := q
              simp only [h5] at H ⊢
              exact ⟨fun q => hj _ _ (H.1 q), fun q => ih _ _ _ _ _ _ hQ (H.2 q)⟩
            | none =>
              simp only [h5] at H ⊢
              cases h6 : ez_sm E i a b k ls st h with
              | some q =>
                obtain ⟨c, st', h'⟩ := q
                simp only [h6] at H ⊢
                exact ⟨H.1, ih _ _ _ _ _ _ hQ H.2⟩
              | none =>
                simp only [h6] at H ⊢
                cases h7 : ez_rt i a st with
                | some q => obtain ⟨c, r⟩ := q; simp only [h7] at H ⊢; exact ⟨H.1, hQ _ _ H.2⟩
                | none =>
                  simp only [h7] at H ⊢
                  cases h8 : ez_jp i pc a st with
                  | mk J st' =>
                    cases J with
                    | some J => simp only [h8] at H ⊢; exact ez_jp_mono h8 (fun t q => hj t st' q) H
                    | none =>
                      simp only [h8] at H ⊢
                      cases h9 : ez_cl i k with
                      | true =>
                        simp only [h9] at H ⊢
                        cases d with
                        | zero => exact H
                        | succ d' =>
                          refine ⟨H.1, hY _ _ _ _ _ _ _ _ ?_ (hXY _ _ _ _ _ _ _ H.2)⟩
                          intro o h' q
                          cases o with
                          | inl r =>
                            cases r with
                            | none => exact ih _ _ _ _ _ _ hQ q
                            | some w => exact ih _ _ _ _ _ _ hQ q
                          | inr x =>
                            cases h10 : hn pc x with
                            | none => simp only [h10] at q ⊢; exact hQ _ _ q
                            | some z =>
                              obtain ⟨t, j⟩ := z
                              simp only [h10] at q ⊢
                              cases t with
                              | zero => exact q
                              | succ t' => exact ih _ _ _ _ _ _ hQ q
                      | false =>
                        simp only [h9] at H ⊢
                        revert H
                        split
                        · split
                          · exact fun H => ⟨H.1, hQ _ _ H.2⟩
                          · exact fun H => H
                        · exact fun H => H
section EZW
variable (E : Nat → Nat × (Nat → Int32)) (ml : Nat → Nat) (hn : Nat → Nat → Nat → Option (Nat × Nat)) (code : Nat → List ez_C)
/-- X holds wherever it must hold by what comes next -/
def ez_Closed (X : ez_X) : Prop := ∀ (d mi pc : Nat) (ls : List (Option Value)) (st : List Value) (h : ez_H) (Q : ez_Q), ez_gw X E ml (hn mi) mi d (code mi) (pc + 1) ls st h Q → X d mi pc ls st h Q
/-- THE LEAST SUCH: the run comes to an end, and Q holds there -/
noncomputable def ez_Wp : ez_X := fun d mi pc ls st h Q => ∀ X : ez_X, ez_Mono X → ez_Closed E ml hn code X → X d mi pc ls st h Q
theorem ez_Wp_mono : ez_Mono (ez_Wp E ml hn code) := fun d mi pc ls st h Q Q' hQ H X hX hC => hX d mi pc ls st h Q Q' hQ (H X hX hC)
theorem ez_Wp_in {d mi pc : Nat} {ls : List (Option Value)} {st : List Value} {h : ez_H} {Q : ez_Q} (H : ez_gw (ez_Wp E ml hn code) E ml (hn mi) mi d (code mi) (pc + 1) ls st h Q) : ez_Wp E ml hn code d mi pc ls st h Q := fun X hX hC =>
  hC _ _ _ _ _ _ _ (ez_gw_mono (fun _ _ _ _ _ _ _ q => q X hX hC) hX _ _ _ _ _ _ _ (fun _ _ q => q) H)
end EZW
end
section
/-! THE PURE MACHINE AND THE MACHINE: values and locals -/
/-- an own cell stands B beyond its number; an outer array where ea says -/
noncomputable def ez_tr (B : Nat) (ea : Nat → Nat) (v : Value) : Value := match v with
  | .ref p => .ref (B + p)
  | .retAddr j => .ref (ea j)
  | v => v
noncomputable def ez_lv (B : Nat) (ea : Nat → Nat) (ls : List (Option Value)) : List (Nat × Value) := (List.range ls.length).filterMap (fun i => (ls.getD i none).map (fun v => (i, ez_tr B ea v)))
theorem ez_lv_mem {B : Nat} {ea : Nat → Nat} {ls : List (Option Value)} {q : Nat × Value} : q ∈ ez_lv B ea ls ↔ ∃ v, ls.getD q.1 none = some v ∧ q.2 = ez_tr B ea v := by
  constructor
  · intro h
    obtain ⟨i, -, hi⟩ := List.mem_filterMap.mp h
    cases hv : ls.getD i none with
    | none => rw [hv] at hi; cases hi
    | some v =>
      rw [hv] at hi
      cases hi
      exact ⟨v, hv, rfl⟩
  · rintro ⟨v, h1, h2⟩
    refine List.mem_filterMap.mpr ⟨q.1, List.mem_range.mpr ?_, ?_⟩
    · rcases Nat.lt_or_ge q.1 ls.length with z | z
      · exact z
      · rw [List.getD_eq_getElem?_getD, List.getElem?_eq_none z] at h1
        cases h1
    · rw [h1]
      show some (q.1, ez_tr B ea v) = some q
      rw [← h2]
theorem ez_lv_at {B : Nat} {ea : Nat → Nat} {lsM : Array Slot} {nL : Nat} {ls : List (Option Value)} (h : lv_has lsM nL (ez_lv B ea ls)) {i : Nat} {v : Value} (hv : ls.getD i none = some v) : lsM[i]? = some (.val (ez_tr B ea v)) :=
  h.2.2 (i, ez_tr B ea v) (ez_lv_mem.mpr ⟨v, hv, rfl⟩)
theorem ez_lv_sub {B : Nat} {ea : Nat → Nat} {lsM : Array Slot} {nL : Nat} {ls : List (Option Value)} {l : List (Nat × Value)} (h : lv_has lsM nL l) (hs : ∀ q ∈ ez_lv B ea ls, q ∈ l) : lv_has lsM nL (ez_lv B ea ls) := ⟨h.1, h.2.1, fun q hq => h.2.2 q (hs q hq)⟩
theorem ez_getD_set {ls : List (Option Value)} {k j : Nat} {w : Option Value} {v : Value} (h : (ls.set k w).getD j none = some v) : (j = k ∧ w = some v) ∨ (j ≠ k ∧ ls.getD j none = some v) := by
  by_cases hj : j = k
  · subst hj
    left
    refine ⟨rfl, ?_⟩
    rw [List.getD_eq_getElem?_getD] at h
    by_cases hl : j < ls.length
    · rw [List.getElem?_set_self hl] at h
      exact h
    · rw [List.getElem?_eq_none (by rw [List.length_set]; omega)] at h
      cases h
  · right
    refine ⟨hj, ?_⟩
    rw [List.getD_eq_getElem?_getD, List.getElem?_set_ne (Ne.symm hj)] at h
    rw [List.getD_eq_getElem?_getD]
    exact h
theorem ez_tr_cat (B : Nat) (ea : Nat → Nat) (v : Value) : (ez_tr B ea v).category = v.category := by cases v <;> rfl
/-- what is left of the locals where one is set: none of its own, no long ahead of it -/
theorem ez_cut_get {ls : List (Option Value)} {k j : Nat} {v : Value} (h : (ez_cut ls k).getD j none = some v) : ls.getD j none = some v ∧ ¬ (j + 1 = k ∧ v.category = 2) := by
  unfold ez_cut at h
  cases k with
  | zero => exact ⟨h, fun q => by omega⟩
  | succ i =>
    simp only at h
    split at h
    · rcases ez_getD_set h with ⟨-, h2⟩ | ⟨h1, h2⟩
      · cases h2
      · exact ⟨h2, fun q => by omega⟩
    · rcases ez_getD_set h with ⟨-, h2⟩ | ⟨h1, h2⟩
      · cases h2
      · exact ⟨h2, fun q => by omega⟩
    · rename_i hx hy
      refine ⟨h, fun q => ?_⟩
      obtain ⟨q1, q2⟩ := q
      have : j = i := by omega
      subst this
      cases v with
      | long x => exact hx x h
      | double x => exact hy x h
      | _ => cases q2
/-- the locals where one of one place is set, as the machine has them -/
theorem ez_lv_set {B : Nat} {ea : Nat → Nat} {lsM : Array Slot} {nL k : Nat} {ls : List (Option Value)} {v : Value} (h : lv_has lsM nL ((k, ez_tr B ea v) :: (ez_lv B ea ls).filter (fun q => !(q.1 == k) && !(q.1 + 1 == k && q.2.category == 2)))) : lv_has lsM nL (ez_lv B ea ((ez_cut ls k).set k (some v))) := by
  refine ez_lv_sub h fun q hq => ?_
  obtain ⟨w, h1, h2⟩ := ez_lv_mem.mp hq
  rcases ez_getD_set h1 with ⟨e1, e2⟩ | ⟨e1, e2⟩
  · cases e2
    refine List.mem_cons.mpr (Or.inl ?_)
    obtain ⟨q1, q2⟩ := q
    simp only at e1 h2
    rw [e1, h2]
  · obtain ⟨f1, f2⟩ := ez_cut_get e2
    refine List.mem_cons.mpr (Or.inr (List.mem_filter.mpr ⟨ez_lv_mem.mpr ⟨w, f1, h2⟩, ?_⟩))
    simp only [Bool.and_eq_true, Bool.not_eq_true', beq_eq_false_iff_ne, ne_eq, Bool.and_eq_false_iff]
    refine ⟨e1, ?_⟩
    by_cases z : q.1 + 1 = k
    · right
      intro y
      rw [h2, ez_tr_cat] at y
      exact f2 ⟨z, y⟩
    · exact Or.inl z
/-- .. and one of two places -/
theorem ez_lv_set2 {B : Nat} {ea : Nat → Nat} {lsM : Array Slot} {nL k : Nat} {ls : List (Option Value)} {v : Value} (h : lv_has lsM nL ((k, ez_tr B ea v) :: (ez_lv B ea ls).filter (fun q => !(q.1 == k) && (!(q.1 == k + 1) && !(q.1 + 1 == k && q.2.category == 2))))) : lv_has lsM nL (ez_lv B ea (((ez_cut ls k).set k (some v)).set (k + 1) none)) := by
  refine ez_lv_sub h fun q hq => ?_
  obtain ⟨w, h1, h2⟩ := ez_lv_mem.mp hq
  rcases ez_getD_set h1 with ⟨e1, e2⟩ | ⟨e0, e2⟩
  · cases e2
  · rcases ez_getD_set e2 with ⟨e1, e2⟩ | ⟨e1, e2⟩
    · cases e2
      refine List.mem_cons.mpr (Or.inl ?_)
      obtain ⟨q1, q2⟩ := q
      simp only at e1 h2
      rw [e1, h2]
    · obtain ⟨f1, f2⟩ := ez_cut_get e2
      refine List.mem_cons.mpr (Or.inr (List.mem_filter.mpr ⟨ez_lv_mem.mpr ⟨w, f1, h2⟩, ?_⟩))
      simp only [Bool.and_eq_true, Bool.not_eq_true', beq_eq_false_iff_ne, ne_eq, Bool.and_eq_false_iff]
      refine ⟨e1, e0, ?_⟩
      by_cases z : q.1 + 1 = k
      · right
        intro y
        rw [h2, ez_tr_cat] at y
        exact f2 ⟨z, y⟩
      · exact Or.inl z
/-- a local is forgotten -/
theorem ez_lv_none {B : Nat} {ea : Nat → Nat} {lsM : Array Slot} {nL k : Nat} {ls : List (Option Value)} {v : Value} (h : lv_has lsM nL ((k, v) :: (ez_lv B ea ls).filter (fun q => !(q.1 == k) && !(q.1 + 1 == k && q.2.category == 2)))) : lv_has lsM nL (ez_lv B ea ((ez_cut ls k).set k none)) := by
  refine ez_lv_sub h fun q hq => ?_
  obtain ⟨w, h1, h2⟩ := ez_lv_mem.mp hq
  rcases ez_getD_set h1 with ⟨e1, e2⟩ | ⟨e1, e2⟩
  · cases e2
  · obtain ⟨f1, f2⟩ := ez_cut_get e2
    refine List.mem_cons.mpr (Or.inr (List.mem_filter.mpr ⟨ez_lv_mem.mpr ⟨w, f1, h2⟩, ?_⟩))
    simp only [Bool.and_eq_true, Bool.not_eq_true', beq_eq_false_iff_ne, ne_eq, Bool.and_eq_false_iff]
    refine ⟨e1, ?_⟩
    by_cases z : q.1 + 1 = k
    · right
      intro y
      rw [h2, ez_tr_cat] at y
      exact f2 ⟨z, y⟩
    · exact Or.inl z
end
section
/-- how long an instruction is -/
noncomputable def ez_ln (i : ClassFile.Instr) : Nat := match i with
  | .bipush _ | .ldc _ | .iload _ | .lload _ | .aload _ | .istore _ | .lstore _ | .astore _ | .newarray _ => 2
  | .sipush _ | .ldc_w _ | .ldc2_w _ | .iinc _ _ | .ifCond _ _ | .if_icmp _ _ | .goto _ | .getfield _ | .putfield _ | .getstatic _ | .new _ | .invokevirtual _ | .invokespecial _ | .invokestatic _ => 3
  | _ => 1
/-- the constant that a table gives an instruction is its own -/
def ez_cst (own : String) (tbl : List Cond) (nL : Nat) (i : ClassFile.Instr) (v : Int32) : Prop := match i with
  | .iconst n => Int32.ofInt n = v
  | .bipush n => (Int8.ofInt n).toInt32 = v
  | .sipush n => (Int16.ofInt n).toInt32 = v
  | .lconst n => Int64.ofNat (n : Nat) = v.toInt64
  | .ldc j => Jvm.Cond.constant own j v ∈ tbl
  | .ldc_w j => Jvm.Cond.constant own j v ∈ tbl
  | .ldc2_w j => Jvm.Cond.constantLong own j v.toInt64 ∈ tbl
  | .iinc k n => Int32.ofInt n = v ∧ k < nL
  | .istore k => k < nL
  | .istore_n k => k.val < nL
  | .astore k => k < nL
  | .astore_n k => k.val < nL
  | .lstore k => k + 1 < nL
  | .lstore_n k => k.val + 1 < nL
  | _ => True
section EZ2
variable {p : Program} {l : Launch} {e : Env} {R : Room} {s : State} {m : MethodId} {args : Array Value} {below : List Frame} {meth : Method} {c : Code} {H : Heap} {locs : List Loc} {cells slots : Nat} {Q : State → Prop} {cc : ByteArray} {pc nL B : Nat} {ea : Nat → Nat} {lsM : Array Slot} {st st' : List Value} {ls ls' : List (Option Value)} {i : ClassFile.Instr} {v : Int32} {own : String} {tbl : List Cond}
set_option maxHeartbeats 1000000 in
theorem ez_op_snd (hx : p.tables.exec = Jvm.exec) (hb : c.code = cc) (hown : s.vm.findClass own = some m.cls) (hts : ∀ w ∈ tbl, w.before args s = true) (hd : decode cc pc = .ok (i, ez_ln i)) (hc : ez_cst own tbl nL i v) (ho : ez_op i v st = some st')
    (k : W p l e R s m args below meth c H locs cells slots Q (F0 m (pc + ez_ln i) lsM (st'.map (ez_tr B ea)))) : W p l e R s m args below meth c H locs cells slots Q (F0 m pc lsM (st.map (ez_tr B ea))) := by
  unfold ez_op at ho
  split at ho
  · cases ho; exact lv_iconst hx hb hd hc k
  · cases ho; exact lv_bipush hx hb hd hc k
  · cases ho; exact lv_sipush hx hb hd hc k
  · cases ho; exact lv_ldc hx hb hown (hts _ hc) hd k
  · cases ho; exact lv_ldcw hx hb hown (hts _ hc) hd k
  · cases ho; exact lv_ldc2 hx hb hown (hts _ hc) hd k
  · cases ho; exact lv_lconst hx hb hd hc k
  · split at ho <;> cases ho; exact lv_i2b hx hb hd rfl k
  · split at ho <;> cases ho; exact lv_iadd hx hb hd k
  · split at ho <;> cases ho; exact lv_isub hx hb hd k
  · split at ho <;> cases ho; exact lv_imul hx hb hd k
  · split at ho <;> cases ho; exact lv_iand hx hb hd k
  · split at ho <;> cases ho; exact lv_ior hx hb hd k
  · split at ho <;> cases ho; exact lv_ixor hx hb hd k
  · split at ho <;> cases ho; exact lv_ishl hx hb hd k
  · split at ho <;> cases ho; exact lv_ishr hx hb hd k
  · split at ho <;> cases ho; exact lv_iushr hx hb hd rfl k
  · split at ho <;> cases ho; exact lv_ineg hx hb hd k
  · split at ho <;> cases ho; exact lv_i2l hx hb hd rfl k
  · split at ho <;> cases ho; exact lv_l2i hx hb hd rfl k
  · split at ho <;> cases ho; exact lv_ladd hx hb hd k
  · split at ho <;> cases ho; exact lv_lsub hx hb hd k
  · split at ho <;> cases ho; exact lv_lmul hx hb hd k
  · split at ho <;> cases ho; exact W.lcmp hx hb hd k
  · split at ho <;> cases ho
    · exact lv_dup hx hb hd rfl k
    · exact lv_dup hx hb hd rfl k
  · split at ho <;> cases ho
    · exact lv_dup2_11 hx hb hd rfl rfl k
    · exact lv_dup2_11 hx hb hd rfl rfl k
  · split at ho <;> cases ho
    · exact lv_dup_x1 hx hb hd rfl rfl k
    · exact lv_dup_x1 hx hb hd rfl rfl k
  · split at ho <;> cases ho
    · exact lv_pop hx hb hd rfl k
    · exact lv_pop hx hb hd rfl k
  · cases ho
theorem ez_ld_snd (hx : p.tables.exec = Jvm.exec) (hb : c.code = cc) (hl : lv_has lsM nL (ez_lv B ea ls)) (hd : decode cc pc = .ok (i, ez_ln i)) (ho : ez_ld i ls st = some st')
    (k : W p l e R s m args below meth c H locs cells slots Q (F0 m (pc + ez_ln i) lsM (st'.map (ez_tr B ea)))) : W p l e R s m args below meth c H locs cells slots Q (F0 m pc lsM (st.map (ez_tr B ea))) := by
  unfold ez_ld at ho
  split at ho
  · split at ho <;> cases ho; rename_i hq; exact lv_iload hx hb hd (ez_lv_at hl hq) k
  · split at ho <;> cases ho; rename_i hq; exact lv_iload_n hx hb hd rfl (ez_lv_at hl hq) k
  · split at ho <;> cases ho; rename_i hq; exact lv_lload hx hb hd (ez_lv_at hl hq) k
  · split at ho <;> cases ho; rename_i hq; exact lv_lload_n hx hb hd rfl (ez_lv_at hl hq) k
  · split at ho <;> cases ho
    · rename_i hq; exact lv_aload hx hb hd (ez_lv_at hl hq) k
    · rename_i hq; exact lv_aload hx hb hd (ez_lv_at hl hq) k
  · split at ho <;> cases ho
    · rename_i hq; exact lv_aload_n hx hb hd rfl (ez_lv_at hl hq) k
    · rename_i hq; exact lv_aload_n hx hb hd rfl (ez_lv_at hl hq) k
  · cases ho
theorem ez_st_snd (hx : p.tables.exec = Jvm.exec) (hb : c.code = cc) (hl : lv_has lsM nL (ez_lv B ea ls)) (hd : decode cc pc = .ok (i, ez_ln i)) (hc : ez_cst own tbl nL i v) (ho : ez_st i v ls st = some (ls', st'))
    (k : ∀ lsM' : Array Slot, lv_has lsM' nL (ez_lv B ea ls') → W p l e R s m args below meth c H locs cells slots Q (F0 m (pc + ez_ln i) lsM' (st'.map (ez_tr B ea)))) : W p l e R s m args below meth c H locs cells slots Q (F0 m pc lsM (st.map (ez_tr B ea))) := by
  unfold ez_st at ho
  split at ho
  · split at ho <;> cases ho; exact lv_istore hx hb hd hl hc rfl fun _ h' => k _ (ez_lv_set h')
  · split at ho <;> cases ho; exact lv_istore_n hx hb hd rfl hl hc rfl fun _ h' => k _ (ez_lv_set h')
  · split at ho <;> cases ho; exact lv_lstore hx hb hd hl hc rfl fun _ h' => k _ (ez_lv_set2 h')
  · split at ho <;> cases ho; exact lv_lstore_n hx hb hd rfl hl hc rfl fun _ h' => k _ (ez_lv_set2 h')
  · split at ho <;> cases ho
    · exact lv_astore hx hb hd hl hc rfl fun _ h' => k _ (ez_lv_set (v := .ref _) h')
    · exact lv_astore hx hb hd hl hc rfl fun _ h' => k _ (ez_lv_set (v := .retAddr _) h')
  · split at ho <;> cases ho
    · exact lv_astore_n hx hb hd rfl hl hc rfl fun _ h' => k _ (ez_lv_set (v := .ref _) h')
    · exact lv_astore_n hx hb hd rfl hl hc rfl fun _ h' => k _ (ez_lv_set (v := .retAddr _) h')
  · split at ho <;> cases ho
    rename_i x hq
    obtain ⟨j, hj⟩ := List.getElem?_of_mem (ez_lv_mem (B := B) (ea := ea) (q := (_, .int x)) |>.mpr ⟨_, hq, rfl⟩)
    exact lv_iinc hx hb hd hl hj (by rw [hc.1]) hc.2 rfl fun _ h' => k _ (ez_lv_set (v := .int _) h')
  · cases ho
theorem ez_br_snd (hx : p.tables.exec = Jvm.exec) (hb : c.code = cc) {a : Nat} {cd : Prop} (hd : decode cc pc = .ok (i, ez_ln i)) (ha : ∀ cn off, i = .ifCond cn off ∨ i = .if_icmp cn off → (pc : Int) + off = (a : Int)) (ho : ez_br i st = some (cd, st'))
    (kt : cd → W p l e R s m args below meth c H locs cells slots Q (F0 m a lsM (st'.map (ez_tr B ea)))) (kf : ¬ cd → W p l e R s m args below meth c H locs cells slots Q (F0 m (pc + 3) lsM (st'.map (ez_tr B ea)))) : W p l e R s m args below meth c H locs cells slots Q (F0 m pc lsM (st.map (ez_tr B ea))) := by
  unfold ez_br at ho
  split at ho
  · rename_i cn off
    have hz := ha cn off (Or.inl rfl)
    split at ho <;> cases ho
    cases cn
    · exact lv_if_eq hx hb hd hz kt kf
    · exact lv_if_ne hx hb hd hz kt (fun q => kf (fun z => z q))
    · exact lv_if_lt hx hb hd hz kt kf
    · exact lv_if_ge hx hb hd hz kt kf
    · exact lv_if_gt hx hb hd hz kt kf
    · exact lv_if_le hx hb hd hz kt kf
  · rename_i cn off
    have hz := ha cn off (Or.inr rfl)
    split at ho <;> cases ho
    cases cn
    · exact lv_icmp_eq hx hb hd hz kt kf
    · exact lv_icmp_ne hx hb hd hz kt (fun q => kf (fun z => z q))
    · exact lv_icmp_lt hx hb hd hz kt kf
    · exact lv_icmp_ge hx hb hd hz kt kf
    · exact lv_icmp_gt hx hb hd hz kt kf
    · exact lv_icmp_le hx hb hd hz kt kf
  · cases ho
end EZ2
end
section
/-! THE PURE HEAP AND THE HEAP. cl: the classes, by tag - 1; ty: a field's type by tag and place; nf: how many fields; dA: the array classes by tag; B: an own cell stands B beyond its number -/
noncomputable def ez_fv (B : Nat) (ty : FieldType) (h : ez_H) (p k : Nat) : Value := match ty with
  | .long => .long (ez_L h p k)
  | .object _ => if ez_R h p k = 0 then .null else .ref (B + ez_R h p k)
  | .array _ => if ez_R h p k = 0 then .null else .ref (B + ez_R h p k)
  | _ => .int (ez_I h p k)
noncomputable def ez_ce (nf : Nat → Nat) (ty : Nat → Nat → FieldType) (dA : Nat → ClassId) (B : Nat) (h : ez_H) (p : Nat) : va_E :=
  if ez_t h p = 1000 then .inl (dA 1000, ez_l h p, .inl (ez_I h p))
  else if ez_t h p = 1002 then .inl (dA 1002, ez_l h p, .inr (.inl (ez_L h p)))
  else if ez_t h p = 1003 then .inl (dA 1003, ez_l h p, .inl (ez_I h p))
  else .inr (ez_t h p - 1, (List.range (nf (ez_t h p))).map (fun k => ez_fv B (ty (ez_t h p) k) h p k))
theorem ez_ce_same {nf : Nat → Nat} {ty : Nat → Nat → FieldType} {dA : Nat → ClassId} {B : Nat} {h h' : ez_H} {r : Nat} (ht : ez_t h' r = ez_t h r) (hl : ez_l h' r = ez_l h r) (hI : ez_I h' r = ez_I h r) (hL : ez_L h' r = ez_L h r) (hR : ez_R h' r = ez_R h r) : ez_ce nf ty dA B h' r = ez_ce nf ty dA B h r := by
  unfold ez_ce ez_fv
  rw [ht, hl, hI, hL, hR]
def ez_A (B : Nat) : Nat → Prop := fun q => B < q
def ez_Rel (D : va_G) (cl : List vw_C) (nf : Nat → Nat) (ty : Nat → Nat → FieldType) (dA : Nat → ClassId) (B : Nat) (h : ez_H) (H : Heap) : Prop :=
  H.size = B + 1 + ez_n h ∧ ∃ L : List Nat, (∀ p, ez_t h p ≠ 0 → B + p ∈ L) ∧ va_P D cl ([] ++ va_pl L (fun a => ez_ce nf ty dA B h (a - B))) H ∧ va_D (ez_A B) ([] ++ va_pl L (fun a => ez_ce nf ty dA B h (a - B)))
section EZ3
variable {D : va_G} {cl : List vw_C} {nf : Nat → Nat} {ty : Nat → Nat → FieldType} {dA : Nat → ClassId} {B : Nat} {h h' : ez_H} {H : Heap}
theorem ez_Rel.pos (hR : ez_Rel D cl nf ty dA B h H) {p : Nat} (hp : ez_t h p ≠ 0) : 0 < p := by
  obtain ⟨-, L, hL, hP, hD⟩ := hR
  obtain ⟨k, hk⟩ := va_pl_get (X := []) (f := fun a => ez_ce nf ty dA B h (a - B)) (hL p hp)
  have : B < B + p := hD.2 k _ hk
  omega
theorem ez_Rel.lt (hR : ez_Rel D cl nf ty dA B h H) {p : Nat} (hp : ez_t h p ≠ 0) : p ≤ ez_n h := by
  obtain ⟨hs, L, hL, hP, hD⟩ := hR
  have := va_pl_lt (X := []) hP (hL p hp)
  omega
/-- the cell of a number, by its place in the world -/
theorem ez_Rel.get (hR : ez_Rel D cl nf ty dA B h H) {p : Nat} (hp : ez_t h p ≠ 0) : ∃ (ws : va_W) (q : Nat), va_P D cl ws H ∧ va_D (ez_A B) ws ∧ ws[q]? = some (B + p, ez_ce nf ty dA B h p) ∧
    ∀ (e : va_E) (h' : ez_H) (H1 : Heap), H1.size = H.size → ez_n h' = ez_n h → (∀ r, ez_t h' r = ez_t h r) → (∀ r, r ≠ p → ez_ce nf ty dA B h' r = ez_ce nf ty dA B h r) → ez_ce nf ty dA B h' p = e → va_P D cl (ws.set q (B + p, e)) H1 → va_D (ez_A B) (ws.set q (B + p, e)) → ez_Rel D cl nf ty dA B h' H1 := by
  have hpos := hR.pos hp
  obtain ⟨hs, L, hL, hP, hD⟩ := hR
  obtain ⟨k, hk⟩ := va_pl_get (X := []) (f := fun a => ez_ce nf ty dA B h (a - B)) (hL p hp)
  refine ⟨_, k, hP, hD, ?_, ?_⟩
  · rw [hk]
    simp only [Nat.add_sub_cancel_left]
  · intro e h' H1 hz hn ht ho he hP1 hD1
    have e1 := va_pl_set (X := []) (f := fun a => ez_ce nf ty dA B h (a - B)) (e := e) hD (hL p hp) hk
    have e2 : va_pl L (va_up (fun a => ez_ce nf ty dA B h (a - B)) (B + p) e) = va_pl L (fun a => ez_ce nf ty dA B h' (a - B)) := by
      apply List.map_congr_left
      intro a ha
      have hBa : B < a := by
        obtain ⟨k2, hk2⟩ := va_pl_get (X := []) (f := fun a => ez_ce nf ty dA B h (a - B)) ha
        exact hD.2 k2 _ hk2
      by_cases hq : a = B + p
      · subst hq
        rw [va_up_self]
        simp only [Nat.add_sub_cancel_left]
        rw [he]
      · rw [va_up_ne _ _ hq]
        simp only
        rw [ho (a - B) (by omega)]
    refine ⟨by rw [hz, hs, hn], L, fun r hr => hL r (by rw [← ht r]; exact hr), ?_, ?_⟩
    · rw [← e2, ← e1]; exact hP1
    · rw [← e2, ← e1]; exact hD1
/-- the same for all numbers at once -/
theorem ez_Rel.all (hR : ez_Rel D cl nf ty dA B h H) : ∃ ws : va_W, va_P D cl ws H ∧ va_D (ez_A B) ws ∧ (∀ r : Nat, ez_t h r ≠ 0 → ∃ j : Nat, ws[j]? = some (B + r, ez_ce nf ty dA B h r)) ∧
    ∀ (p q : Nat), ez_t h p ≠ 0 → ws[q]? = some (B + p, ez_ce nf ty dA B h p) → ∀ (e : va_E) (h' : ez_H) (H1 : Heap), H1.size = H.size → ez_n h' = ez_n h → (∀ r, ez_t h' r = ez_t h r) → (∀ r, r ≠ p → ez_ce nf ty dA B h' r = ez_ce nf ty dA B h r) → ez_ce nf ty dA B h' p = e → va_P D cl (ws.set q (B + p, e)) H1 → va_D (ez_A B) (ws.set q (B + p, e)) → ez_Rel D cl nf ty dA B h' H1 := by
  obtain ⟨hs, L, hL, hP, hD⟩ := hR
  refine ⟨_, hP, hD, ?_, ?_⟩
  · intro r hr
    obtain ⟨k, hk⟩ := va_pl_get (X := []) (f := fun a => ez_ce nf ty dA B h (a - B)) (hL r hr)
    refine ⟨k, ?_⟩
    rw [hk]
    simp only [Nat.add_sub_cancel_left]
  · intro p k hp hk e h' H1 hz hn ht ho he hP1 hD1
    have hk' : ([] ++ va_pl L (fun a => ez_ce nf ty dA B h (a - B)))[k]? = some (B + p, (fun a => ez_ce nf ty dA B h (a - B)) (B + p)) := by
      rw [hk]
      simp only [Nat.add_sub_cancel_left]
    have e1 := va_pl_set (X := []) (f := fun a => ez_ce nf ty dA B h (a - B)) (e := e) hD (hL p hp) hk'
    have e2 : va_pl L (va_up (fun a => ez_ce nf ty dA B h (a - B)) (B + p) e) = va_pl L (fun a => ez_ce nf ty dA B h' (a - B)) := by
      apply List.map_congr_left
      intro a ha
      have hBa : B < a := by
        obtain ⟨k2, hk2⟩ := va_pl_get (X := []) (f := fun a => ez_ce nf ty dA B h (a - B)) ha
        exact hD.2 k2 _ hk2
      by_cases hq : a = B + p
      · subst hq
        rw [va_up_self]
        simp only [Nat.add_sub_cancel_left]
        rw [he]
      · rw [va_up_ne _ _ hq]
        simp only
        rw [ho (a - B) (by omega)]
    refine ⟨by rw [hz, hs, hn], L, fun r hr => hL r (by rw [← ht r]; exact hr), ?_, ?_⟩
    · rw [← e2, ← e1]; exact hP1
    · rw [← e2, ← e1]; exact hD1
/-- a new cell: behind the last -/
theorem ez_Rel.push (hR : ez_Rel D cl nf ty dA B h H) {H1 : Heap} {tag len slots : Nat} (hz : H1.size = H.size + 1) (ho : ∀ q : Nat, q < H.size → H1[q]? = H[q]?) (he : va_at D cl (H.size, ez_ce nf ty dA B (ez_new h tag len slots) (ez_n h + 1)) H1) : ez_Rel D cl nf ty dA B (ez_new h tag len slots) H1 := by
  obtain ⟨hs, L, hL, hP, hD⟩ := hR
  have hfresh : H.size ∉ L := va_pl_fresh (X := []) hP (Nat.le_refl _)
  have hk : ∀ (k : Nat) (x : Nat × va_E), ([] ++ va_pl L (fun a => ez_ce nf ty dA B h (a - B)))[k]? = some x → H1[x.1]? = H[x.1]? := fun k x hx => ho x.1 ((hP k x hx).lt)
  have hP1 : va_P D cl (([] ++ va_pl L (fun a => ez_ce nf ty dA B h (a - B))) ++ [(H.size, ez_ce nf ty dA B (ez_new h tag len slots) (ez_n h + 1))]) H1 := (hP.kept hk).app (fun k x hx => by
    have hz : k < 1 := (List.getElem?_eq_some_iff.mp hx).1
    rw [show k = 0 by omega] at hx
    cases hx
    exact he)
  have hD1 : va_D (ez_A B) (([] ++ va_pl L (fun a => ez_ce nf ty dA B h (a - B))) ++ [(H.size, ez_ce nf ty dA B (ez_new h tag len slots) (ez_n h + 1))]) := hD.push hP rfl (show B < H.size by omega)
  have e1 : ([] ++ va_pl L (fun a => ez_ce nf ty dA B h (a - B))) ++ [(H.size, ez_ce nf ty dA B (ez_new h tag len slots) (ez_n h + 1))] = [] ++ va_pl (L ++ [H.size]) (fun a => ez_ce nf ty dA B (ez_new h tag len slots) (a - B)) := by
    show va_pl L (fun a => ez_ce nf ty dA B h (a - B)) ++ [(H.size, _)] = va_pl (L ++ [H.size]) _
    rw [va_pl_push hfresh]
    apply List.map_congr_left
    intro a ha
    by_cases hq : a = H.size
    · subst hq
      rw [va_up_self]
      simp only [hs, show B + 1 + ez_n h - B = ez_n h + 1 by omega]
    · rw [va_up_ne _ _ hq]
      simp only
      have hne : a - B ≠ ez_n h + 1 := by
        rcases List.mem_append.mp ha with z | z
        · have h1 := va_pl_lt (X := []) hP z
          obtain ⟨k2, hk2⟩ := va_pl_get (X := []) (f := fun a => ez_ce nf ty dA B h (a - B)) z
          have h2 : B < a := hD.2 k2 _ hk2
          omega
        · exact absurd (List.mem_singleton.mp z) hq
      refine congrArg (Prod.mk a) (ez_ce_same (h := h) (h' := ez_new h tag len slots) ?_ ?_ ?_ ?_ ?_).symm
      · show ez_up (ez_t h) (ez_n h + 1) tag (a - B) = _
        simp [ez_up, hne]
      · show ez_up (ez_l h) (ez_n h + 1) len (a - B) = _
        simp [ez_up, hne]
      · show ez_row (ez_I h) (ez_n h + 1) _ (a - B) = _
        simp [ez_row, hne]
      · show ez_row (ez_L h) (ez_n h + 1) _ (a - B) = _
        simp [ez_row, hne]
      · show ez_row (ez_R h) (ez_n h + 1) _ (a - B) = _
        simp [ez_row, hne]
  rw [e1] at hP1 hD1
  refine ⟨by rw [hz, hs]; rfl, _, fun r hr => ?_, hP1, hD1⟩
  by_cases hq : r = ez_n h + 1
  · subst hq
    exact List.mem_append_right _ (List.mem_singleton.mpr (by omega))
  · refine List.mem_append_left _ (hL r ?_)
    have : ez_t (ez_new h tag len slots) r = ez_t h r := by
      show ez_up (ez_t h) (ez_n h + 1) tag r = _
      simp [ez_up, hq]
    rw [← this]
    exact hr
end EZ3
end
section
/-! READING AND WRITING THE HEAP -/
abbrev ez_tys (dA : Nat → ClassId) : List (ClassId × FieldType) := [(dA 1000, .int), (dA 1002, .long), (dA 1003, .byte)]
/-- a class by its tag: its row in cl, its fields' words, types and names -/
def ez_Cls (tbl : List Cond) (cl : List vw_C) (nf : Nat → Nat) (ty : Nat → Nat → FieldType) (a : Nat) (C : String) (T : u_T) : Prop :=
  0 < a ∧ a < 1000 ∧ cl[a - 1]? = some (C, T, nf a) ∧ (∀ w ∈ u_ws C T (nf a), w ∈ tbl) ∧ (∀ k, k < nf a → parseFieldDescriptor (T k).2.2.1 = some (ty a k)) ∧ (∀ x, x < nf a → ∀ y, y < nf a → x ≠ y → (T x).2.1 ≠ (T y).2.1)
theorem ez_ce_obj {nf : Nat → Nat} {ty : Nat → Nat → FieldType} {dA : Nat → ClassId} {B : Nat} {h : ez_H} {p a : Nat} (hp : ez_t h p = a) (ha : a < 1000) : ez_ce nf ty dA B h p = .inr (a - 1, (List.range (nf a)).map (fun k => ez_fv B (ty a k) h p k)) := by
  unfold ez_ce
  rw [hp, if_neg (by omega), if_neg (by omega), if_neg (by omega)]
theorem ez_ce_i {nf : Nat → Nat} {ty : Nat → Nat → FieldType} {dA : Nat → ClassId} {B : Nat} {h : ez_H} {p : Nat} (hp : ez_t h p = 1000) : ez_ce nf ty dA B h p = .inl (dA 1000, ez_l h p, .inl (ez_I h p)) := by
  unfold ez_ce
  rw [if_pos hp]
theorem ez_ce_l {nf : Nat → Nat} {ty : Nat → Nat → FieldType} {dA : Nat → ClassId} {B : Nat} {h : ez_H} {p : Nat} (hp : ez_t h p = 1002) : ez_ce nf ty dA B h p = .inl (dA 1002, ez_l h p, .inr (.inl (ez_L h p))) := by
  unfold ez_ce
  rw [hp, if_neg (by omega), if_pos rfl]
theorem ez_ce_b {nf : Nat → Nat} {ty : Nat → Nat → FieldType} {dA : Nat → ClassId} {B : Nat} {h : ez_H} {p : Nat} (hp : ez_t h p = 1003) : ez_ce nf ty dA B h p = .inl (dA 1003, ez_l h p, .inl (ez_I h p)) := by
  unfold ez_ce
  rw [hp, if_neg (by omega), if_neg (by omega), if_pos rfl]
theorem ez_up2_ne {α : Type} {f : Nat → Nat → α} {p k : Nat} {v : α} {r : Nat} (h : r ≠ p) : ez_up2 f p k v r = f r := by
  funext j
  simp [ez_up2, h]
theorem ez_up2_at {α : Type} {f : Nat → Nat → α} {p k : Nat} {v : α} : ez_up2 f p k v p k = v := by simp [ez_up2]
theorem ez_up2_el {α : Type} {f : Nat → Nat → α} {p k j : Nat} {v : α} (h : j ≠ k) : ez_up2 f p k v p j = f p j := by simp [ez_up2, h]
theorem ez_up2_row {f : Nat → Nat → Int32} {p k : Nat} {v : Int32} : ez_up2 f p k v p = upd (f p) k v := by
  funext j
  simp [ez_up2, upd]
theorem ez_up2_rowL {f : Nat → Nat → Int64} {p k : Nat} {v : Int64} : ez_up2 f p k v p = vp_updL (f p) k v := by
  funext j
  simp [ez_up2, vp_updL]
theorem ez_row_ne {α : Type} {f : Nat → Nat → α} {p : Nat} {g : Nat → α} {r : Nat} (h : r ≠ p) : ez_row f p g r = f r := by simp [ez_row, h]
theorem ez_row_at {α : Type} {f : Nat → Nat → α} {p : Nat} {g : Nat → α} : ez_row f p g p = g := by simp [ez_row]
theorem ez_fs_set {n b : Nat} {f g : Nat → Value} {v : Value} (hb : b < n) (h1 : ∀ k, k ≠ b → g k = f k) (h2 : g b = v) : (List.range n).map g = ((List.range n).map f).set b v := by
  apply List.ext_getElem?
  intro j
  by_cases hj : j = b
  · subst hj
    rw [List.getElem?_set_self (by simpa using hb), List.getElem?_map, List.getElem?_range hb]
    simp [h2]
  · rw [List.getElem?_set_ne (Ne.symm hj), List.getElem?_map, List.getElem?_map]
    cases hq : (List.range n)[j]? with
    | none => rfl
    | some z =>
      have hz : z = j := by
        have hl := (List.getElem?_eq_some_iff.mp hq).1
        rw [List.length_range] at hl
        rw [List.getElem?_range hl] at hq
        exact (Option.some.inj hq).symm
      subst hz
      simp [h1 z hj]
section EZ5
variable {p : Program} {l : Launch} {e : Env} {R : Room} {s : State} {m : MethodId} {args : Array Value} {below : List Frame} {meth : Method} {c : Code} {H : Heap} {locs : List Loc} {cells slots : Nat} {Q : State → Prop} {cc : ByteArray} {pc nL B : Nat} {ea : Nat → Nat} {lsM : Array Slot} {own : String} {tbl : List Cond} {rest : List Value}
variable {D : va_G} {cl : List vw_C} {nf : Nat → Nat} {ty : Nat → Nat → FieldType} {dA : Nat → ClassId} {h : ez_H}
theorem ez_W_size {g : JFrame} (k : H.size ≤ s.heap.size + cells → W p l e R s m args below meth c H locs cells slots Q g) : W p l e R s m args below meth c H locs cells slots Q g := fun T hT X => k (by rw [← hT]; exact X.heapSize) T hT X
/-- a field is read -/
theorem ez_getf (hx : p.tables.exec = Jvm.exec) (hb : c.code = cc) (hown : s.vm.findClass own = some m.cls) (hts : ∀ w ∈ tbl, w.before args s = true) (hK : va_K D cl (ez_tys dA) s) (hR : ez_Rel D cl nf ty dA B h H) {a b q idx : Nat} {C : String} {T : u_T} (hC : ez_Cls tbl cl nf ty a C T) (hbn : b < nf a) (hq : ez_t h q = a)
    (hlk : Cond.fieldLink own idx (T b).1 (T b).2.1 (T b).2.2.1 ∈ tbl ∨ ∃ host, Cond.fieldLinkNest own idx (T b).1 (T b).2.1 (T b).2.2.1 host ∈ tbl) (hd : decode cc pc = .ok (.getfield idx, 3))
    (k : W p l e R s m args below meth c H locs cells slots Q (F0 m (pc + 3) lsM (ez_fv B (ty a b) h q b :: rest))) : W p l e R s m args below meth c H locs cells slots Q (F0 m pc lsM (.ref (B + q) :: rest)) := by
  obtain ⟨ha0, ha1, hcl, hws, -, -⟩ := hC
  obtain ⟨ws, j, hP, -, hj, -⟩ := hR.get (p := q) (by omega)
  rw [ez_ce_obj hq ha1] at hj
  have hv : ((List.range (nf a)).map (fun k => ez_fv B (ty a k) h q k))[b]? = some (ez_fv B (ty a b) h q b) := by
    rw [List.getElem?_map, List.getElem?_range hbn]
    rfl
  rcases hlk with hlk | ⟨host, hlk⟩
  · exact va_get hx hb hts hws hown hK hP j hj hcl b hbn (hts _ hlk) (fun _ z => z) hv hd k
  · exact va_getN hx hb hts hws hown hK hP j hj hcl b hbn (hts _ hlk) (fun _ z => z) hv hd k
/-- the frame of a write, seen from the method's entry -/
theorem ez_S_step {H1 : Heap} {locs1 : List Loc} {H0 : Heap} (hS : va_S (ez_A B) H0 H locs) (hS1 : va_S (ez_A B) H H1 locs1) : va_S (ez_A B) H0 H1 locs1 :=
  ⟨Nat.le_trans hS.1 hS1.1, fun q g1 g2 => (hS1.2.1 q (Nat.lt_of_lt_of_le g1 hS.1) g2).trans (hS.2.1 q g1 g2), hS1.2.2⟩
theorem ez_S_here {H0 : Heap} (hS : va_S (ez_A B) H0 H locs) : va_S (ez_A B) H H locs := ⟨Nat.le_refl _, fun _ _ _ => rfl, hS.2.2⟩
/-- a field is written -/
theorem ez_putf (hx : p.tables.exec = Jvm.exec) (hb : c.code = cc) (hown : s.vm.findClass own = some m.cls) (hts : ∀ w ∈ tbl, w.before args s = true) (hK : va_K D cl (ez_tys dA) s) (hR : ez_Rel D cl nf ty dA B h H) (hS : va_S (ez_A B) s.heap H locs) (hsz : s.heap.size + cells = B + 1 + ez_n h) {a b q idx : Nat} {C : String} {T : u_T} (hC : ez_Cls tbl cl nf ty a C T) (hbn : b < nf a) (hq : ez_t h q = a)
    (hlk : ((T b).2.2.2 = false ∧ (Cond.fieldLink own idx (T b).1 (T b).2.1 (T b).2.2.1 ∈ tbl ∨ ∃ host, Cond.fieldLinkNest own idx (T b).1 (T b).2.1 (T b).2.2.1 host ∈ tbl)) ∨ ((T b).2.2.2 = true ∧ meth.name = "<init>" ∧ (T b).1 = own ∧ Cond.fieldLink own idx (T b).1 (T b).2.1 (T b).2.2.1 ∈ tbl)) (hd : decode cc pc = .ok (.putfield idx, 3))
    {v : Value} (hnv : narrow (ty a b) v = v) (hfv : fits (ty a b) v = true) (h' : ez_H) (hn' : ez_n h' = ez_n h) (ht' : ∀ r, ez_t h' r = ez_t h r) (ho : ∀ r, r ≠ q → ez_ce nf ty dA B h' r = ez_ce nf ty dA B h r) (hf : ∀ k, k ≠ b → ez_fv B (ty a k) h' q k = ez_fv B (ty a k) h q k) (hfb : ez_fv B (ty a b) h' q b = v)
    (k : ∀ (H1 : Heap) (locs1 : List Loc), ez_Rel D cl nf ty dA B h' H1 → va_S (ez_A B) s.heap H1 locs1 → W p l e R s m args below meth c H1 locs1 cells slots Q (F0 m (pc + 3) lsM rest)) : W p l e R s m args below meth c H locs cells slots Q (F0 m pc lsM (v :: .ref (B + q) :: rest)) := by
  obtain ⟨ha0, ha1, hcl, hws, hty, hnm⟩ := hC
  have hs0 := hR.1
  obtain ⟨ws, j, hP, hD, hj, hset⟩ := hR.get (p := q) (by omega)
  rw [ez_ce_obj hq ha1] at hj
  have kk : ∀ (H1 : Heap) (locs1 : List Loc), va_P D cl (ws.set j (B + q, .inr (a - 1, ((List.range (nf a)).map (fun k => ez_fv B (ty a k) h q k)).set b v))) H1 → va_D (ez_A B) (ws.set j (B + q, .inr (a - 1, ((List.range (nf a)).map (fun k => ez_fv B (ty a k) h q k)).set b v))) → va_S (ez_A B) H H1 locs1 → W p l e R s m args below meth c H1 locs1 cells slots Q (F0 m (pc + 3) lsM rest) := by
    intro H1 locs1 hP1 hD1 hS1
    refine ez_W_size fun hle => ?_
    refine k H1 locs1 (hset _ h' H1 ?_ hn' ht' ho ?_ hP1 hD1) (ez_S_step hS hS1)
    · have := hS1.1
      omega
    · rw [ez_ce_obj (by rw [ht']; exact hq) ha1, ez_fs_set hbn hf hfb]
  have hlen : b < ((List.range (nf a)).map (fun k => ez_fv B (ty a k) h q k)).length := by simpa using hbn
  rcases hlk with ⟨hfin, hlk | ⟨host, hlk⟩⟩ | ⟨hfin, hini, hdecl, hlk⟩
  · exact va_put hx hb hts hws (ty a) hty hnm hown hK hP hD (ez_S_here hS) j hj hcl b hbn (hts _ hlk) (fun _ z => z) hfin (hty b hbn) hnv hfv hlen hd kk
  · exact va_putN hx hb hts hws (ty a) hty hnm hown hK hP hD (ez_S_here hS) j hj hcl b hbn (hts _ hlk) (fun _ z => z) hfin (hty b hbn) hnv hfv hlen hd kk
  · exact va_putF hx hb hts hws (ty a) hty hnm hown hK hP hD (ez_S_here hS) j hj hcl b hbn (hts _ hlk) (fun _ z => z) hfin hini hdecl (hty b hbn) hnv hfv hlen hd kk
end EZ5
end
section
section EZ6
variable {p : Program} {l : Launch} {e : Env} {R : Room} {s : State} {m : MethodId} {args : Array Value} {below : List Frame} {meth : Method} {c : Code} {H : Heap} {locs : List Loc} {cells slots : Nat} {Q : State → Prop} {cc : ByteArray} {pc nL B : Nat} {ea : Nat → Nat} {lsM : Array Slot} {own : String} {tbl : List Cond} {rest : List Value}
variable {D : va_G} {cl : List vw_C} {nf : Nat → Nat} {ty : Nat → Nat → FieldType} {dA : Nat → ClassId} {h : ez_H}
theorem ez_ald (hx : p.tables.exec = Jvm.exec) (hb : c.code = cc) (hK : va_K D cl (ez_tys dA) s) (hR : ez_Rel D cl nf ty dA B h H) {q : Nat} {x : Int32} (hq : ez_t h q = 1000) (hi : vp_in x (ez_l h q)) (hd : decode cc pc = .ok (.iaload, 1))
    (k : W p l e R s m args below meth c H locs cells slots Q (F0 m (pc + 1) lsM (.int (ez_I h q x.toNatClampNeg) :: rest))) : W p l e R s m args below meth c H locs cells slots Q (F0 m pc lsM (.int x :: .ref (B + q) :: rest)) := by
  obtain ⟨ws, j, hP, -, hj, -⟩ := hR.get (p := q) (by omega)
  rw [ez_ce_i hq] at hj
  exact va_iald hx hb hK hP j 0 hj rfl hi hd k
theorem ez_bald (hx : p.tables.exec = Jvm.exec) (hb : c.code = cc) (hK : va_K D cl (ez_tys dA) s) (hR : ez_Rel D cl nf ty dA B h H) {q : Nat} {x : Int32} (hq : ez_t h q = 1003) (hi : vp_in x (ez_l h q)) (hd : decode cc pc = .ok (.baload, 1))
    (k : W p l e R s m args below meth c H locs cells slots Q (F0 m (pc + 1) lsM (.int (ez_I h q x.toNatClampNeg) :: rest))) : W p l e R s m args below meth c H locs cells slots Q (F0 m pc lsM (.int x :: .ref (B + q) :: rest)) := by
  obtain ⟨ws, j, hP, -, hj, -⟩ := hR.get (p := q) (by omega)
  rw [ez_ce_b hq] at hj
  exact va_bald hx hb hK hP j 2 hj rfl hi hd k
theorem ez_lald (hx : p.tables.exec = Jvm.exec) (hb : c.code = cc) (hK : va_K D cl (ez_tys dA) s) (hR : ez_Rel D cl nf ty dA B h H) {q : Nat} {x : Int32} (hq : ez_t h q = 1002) (hi : vp_in x (ez_l h q)) (hd : decode cc pc = .ok (.laload, 1))
    (k : W p l e R s m args below meth c H locs cells slots Q (F0 m (pc + 1) lsM (.long (ez_L h q x.toNatClampNeg) :: rest))) : W p l e R s m args below meth c H locs cells slots Q (F0 m pc lsM (.int x :: .ref (B + q) :: rest)) := by
  obtain ⟨ws, j, hP, -, hj, -⟩ := hR.get (p := q) (by omega)
  rw [ez_ce_l hq] at hj
  exact va_lald hx hb hK hP j 1 hj rfl hi hd k
theorem ez_alen (hx : p.tables.exec = Jvm.exec) (hb : c.code = cc) (hK : va_K D cl (ez_tys dA) s) (hR : ez_Rel D cl nf ty dA B h H) {q : Nat} (hq : ez_t h q = 1000 ∨ ez_t h q = 1002 ∨ ez_t h q = 1003) (hd : decode cc pc = .ok (.arraylength, 1))
    (k : W p l e R s m args below meth c H locs cells slots Q (F0 m (pc + 1) lsM (.int (nI (ez_l h q)) :: rest))) : W p l e R s m args below meth c H locs cells slots Q (F0 m pc lsM (.ref (B + q) :: rest)) := by
  obtain ⟨ws, j, hP, -, hj, -⟩ := hR.get (p := q) (by omega)
  rcases hq with hq | hq | hq
  · rw [ez_ce_i hq] at hj
    exact va_alen hx hb hK hP j 0 hj (ty := .int) rfl rfl hd k
  · rw [ez_ce_l hq] at hj
    exact va_alen hx hb hK hP j 1 hj (ty := .long) rfl rfl hd k
  · rw [ez_ce_b hq] at hj
    exact va_alen hx hb hK hP j 2 hj (ty := .byte) rfl rfl hd k
theorem ez_setI_I (q x r : Nat) (y : Int32) : ez_I (ez_setI h q x y) r = ez_up2 (ez_I h) q x y r := rfl
theorem ez_ast (hx : p.tables.exec = Jvm.exec) (hb : c.code = cc) (hK : va_K D cl (ez_tys dA) s) (hR : ez_Rel D cl nf ty dA B h H) (hS : va_S (ez_A B) s.heap H locs) (hsz : s.heap.size + cells = B + 1 + ez_n h) {q : Nat} {x y : Int32} (hq : ez_t h q = 1000) (hi : vp_in x (ez_l h q)) (hd : decode cc pc = .ok (.iastore, 1))
    (k : ∀ (H1 : Heap) (locs1 : List Loc), ez_Rel D cl nf ty dA B (ez_setI h q x.toNatClampNeg y) H1 → va_S (ez_A B) s.heap H1 locs1 → W p l e R s m args below meth c H1 locs1 cells slots Q (F0 m (pc + 1) lsM rest)) : W p l e R s m args below meth c H locs cells slots Q (F0 m pc lsM (.int y :: .int x :: .ref (B + q) :: rest)) := by
  have hs0 := hR.1
  obtain ⟨ws, j, hP, hD, hj, hset⟩ := hR.get (p := q) (by omega)
  rw [ez_ce_i hq] at hj
  refine va_iast hx hb hK hP hD (ez_S_here hS) j 0 hj rfl hi hd fun H1 locs1 hP1 hD1 hS1 => ez_W_size fun hle => k H1 locs1 (hset _ _ H1 ?_ rfl (fun _ => rfl) ?_ ?_ hP1 hD1) (ez_S_step hS hS1)
  · have := hS1.1
    omega
  · intro r hr
    exact ez_ce_same rfl rfl (by rw [ez_setI_I, ez_up2_ne hr]) rfl rfl
  · rw [ez_ce_i (show ez_t (ez_setI h q x.toNatClampNeg y) q = 1000 from hq), ez_setI_I, ez_up2_row]
    rfl
theorem ez_bast (hx : p.tables.exec = Jvm.exec) (hb : c.code = cc) (hK : va_K D cl (ez_tys dA) s) (hR : ez_Rel D cl nf ty dA B h H) (hS : va_S (ez_A B) s.heap H locs) (hsz : s.heap.size + cells = B + 1 + ez_n h) {q : Nat} {x y : Int32} (hq : ez_t h q = 1003) (hi : vp_in x (ez_l h q)) (hd : decode cc pc = .ok (.bastore, 1))
    (k : ∀ (H1 : Heap) (locs1 : List Loc), ez_Rel D cl nf ty dA B (ez_setI h q x.toNatClampNeg y.toInt8.toInt32) H1 → va_S (ez_A B) s.heap H1 locs1 → W p l e R s m args below meth c H1 locs1 cells slots Q (F0 m (pc + 1) lsM rest)) : W p l e R s m args below meth c H locs cells slots Q (F0 m pc lsM (.int y :: .int x :: .ref (B + q) :: rest)) := by
  have hs0 := hR.1
  obtain ⟨ws, j, hP, hD, hj, hset⟩ := hR.get (p := q) (by omega)
  rw [ez_ce_b hq] at hj
  refine va_bast hx hb hK hP hD (ez_S_here hS) j 2 hj rfl hi hd fun H1 locs1 hP1 hD1 hS1 => ez_W_size fun hle => k H1 locs1 (hset _ _ H1 ?_ rfl (fun _ => rfl) ?_ ?_ hP1 hD1) (ez_S_step hS hS1)
  · have := hS1.1
    omega
  · intro r hr
    exact ez_ce_same rfl rfl (by rw [ez_setI_I, ez_up2_ne hr]) rfl rfl
  · rw [ez_ce_b (show ez_t (ez_setI h q x.toNatClampNeg y.toInt8.toInt32) q = 1003 from hq), ez_setI_I, ez_up2_row, vp_nar_byte]
    rfl
theorem ez_last (hx : p.tables.exec = Jvm.exec) (hb : c.code = cc) (hK : va_K D cl (ez_tys dA) s) (hR : ez_Rel D cl nf ty dA B h H) (hS : va_S (ez_A B) s.heap H locs) (hsz : s.heap.size + cells = B + 1 + ez_n h) {q : Nat} {x : Int32} {y : Int64} (hq : ez_t h q = 1002) (hi : vp_in x (ez_l h q)) (hd : decode cc pc = .ok (.lastore, 1))
    (k : ∀ (H1 : Heap) (locs1 : List Loc), ez_Rel D cl nf ty dA B (ez_setL h q x.toNatClampNeg y) H1 → va_S (ez_A B) s.heap H1 locs1 → W p l e R s m args below meth c H1 locs1 cells slots Q (F0 m (pc + 1) lsM rest)) : W p l e R s m args below meth c H locs cells slots Q (F0 m pc lsM (.long y :: .int x :: .ref (B + q) :: rest)) := by
  have hs0 := hR.1
  obtain ⟨ws, j, hP, hD, hj, hset⟩ := hR.get (p := q) (by omega)
  rw [ez_ce_l hq] at hj
  refine va_last hx hb hK hP hD (ez_S_here hS) j 1 hj rfl hi hd fun H1 locs1 hP1 hD1 hS1 => ez_W_size fun hle => k H1 locs1 (hset _ _ H1 ?_ rfl (fun _ => rfl) ?_ ?_ hP1 hD1) (ez_S_step hS hS1)
  · have := hS1.1
    omega
  · intro r hr
    exact ez_ce_same rfl rfl rfl (by show ez_up2 (ez_L h) q x.toNatClampNeg y r = _; rw [ez_up2_ne hr]) rfl
  · rw [ez_ce_l (show ez_t (ez_setL h q x.toNatClampNeg y) q = 1002 from hq), show ez_L (ez_setL h q x.toNatClampNeg y) q = _ from ez_up2_rowL]
    rfl
theorem ez_copy (hx : p.tables.exec = Jvm.exec) (hb : c.code = cc) (hml : c.maxLocals = lsM.size) (hown : s.vm.findClass own = some m.cls) (hts : ∀ w ∈ tbl, w.before args s = true) {idx : Nat} (hl1 : Cond.methodLink own idx arraycopyName ∈ tbl) (hl2 : Cond.native arraycopyName ∈ tbl) (hl3 : Cond.static arraycopyName ∈ tbl) (hl4 : Cond.initialized "java/lang/System" ∈ tbl) (hK : va_K D cl (ez_tys dA) s) (hR : ez_Rel D cl nf ty dA B h H) (hS : va_S (ez_A B) s.heap H locs) (hsz : s.heap.size + cells = B + 1 + ez_n h)
    {q1 q2 : Nat} {sp dp n : Int32} (hq1 : ez_t h q1 = 1000) (hq2 : ez_t h q2 = 1000) (h1 : ¬ sp < 0) (h2 : ¬ dp < 0) (h3 : ¬ n < 0) (h4 : sp.toNatClampNeg + n.toNatClampNeg ≤ ez_l h q1) (h5 : dp.toNatClampNeg + n.toNatClampNeg ≤ ez_l h q2)
    (hfr : 1 ≤ R.frames) (hlo : (rest.map fun v => v.category).sum + (nativeFrameWords "java/lang/System" "arraycopy" 5 + 11) ≤ R.locals) (hd : decode cc pc = .ok (.invokestatic idx, 3))
    (k : ∀ (H1 : Heap) (locs1 : List Loc), ez_Rel D cl nf ty dA B (ez_rowI h q2 (va_cpy (ez_I h q1) (ez_I h q2) sp.toNatClampNeg dp.toNatClampNeg n.toNatClampNeg)) H1 → va_S (ez_A B) s.heap H1 locs1 → W p l e R s m args below meth c H1 locs1 cells slots Q (F0 m (pc + 3) lsM rest)) : W p l e R s m args below meth c H locs cells slots Q (F0 m pc lsM (.int n :: .int dp :: .ref (B + q2) :: .int sp :: .ref (B + q1) :: rest)) := by
  have hs0 := hR.1
  obtain ⟨ws, hP, hD, hall, hset⟩ := hR.all
  obtain ⟨j1, hj1⟩ := hall q1 (by omega)
  obtain ⟨j, hj⟩ := hall q2 (by omega)
  replace hset := hset q2 j (by omega) hj
  rw [ez_ce_i hq2] at hj
  rw [ez_ce_i hq1] at hj1
  refine va_copyi hx hb hml hown (hts _ hl1) (hts _ hl2) (hts _ hl3) (hts _ hl4) hK hP hD (ez_S_here hS) j1 j 0 0 (ty := .int) hj1 hj rfl rfl rfl h1 h2 h3 h4 h5 (fun _ _ => rfl) hfr hlo hd fun H1 locs1 hP1 hD1 hS1 => ez_W_size fun hle => k H1 locs1 (hset _ _ H1 ?_ rfl (fun _ => rfl) ?_ ?_ hP1 hD1) (ez_S_step hS hS1)
  · have := hS1.1
    omega
  · intro r hr
    exact ez_ce_same rfl rfl (by show ez_row (ez_I h) q2 _ r = _; rw [ez_row_ne hr]) rfl rfl
  · rw [ez_ce_i (show ez_t (ez_rowI h q2 _) q2 = 1000 from hq2), show ez_I (ez_rowI h q2 _) q2 = _ from ez_row_at]
    rfl
end EZ6
end
section
/-- the words of an array type's tag -/
def ez_aty (at_ : ArrayType) (a : Nat) : Prop := (at_ = .int ∧ a = 1000) ∨ (at_ = .long ∧ a = 1002) ∨ (at_ = .byte ∧ a = 1003)
section EZ7
variable {p : Program} {l : Launch} {e : Env} {R : Room} {s : State} {m : MethodId} {args : Array Value} {below : List Frame} {meth : Method} {c : Code} {H : Heap} {locs : List Loc} {cells slots : Nat} {Q : State → Prop} {cc : ByteArray} {pc nL B : Nat} {ea : Nat → Nat} {lsM : Array Slot} {own : String} {tbl : List Cond} {rest : List Value}
variable {D : va_G} {cl : List vw_C} {nf : Nat → Nat} {ty : Nat → Nat → FieldType} {dA : Nat → ClassId} {h : ez_H}
theorem ez_S_grow {H0 H1 : Heap} (hS : va_S (ez_A B) H0 H locs) (hz : H1.size = H.size + 1) (ho : ∀ q : Nat, q < H.size → H1[q]? = H[q]?) : va_S (ez_A B) H0 H1 locs :=
  ⟨by have := hS.1; omega, fun q g1 g2 => (ho q (Nat.lt_of_lt_of_le g1 hS.1)).trans (hS.2.1 q g1 g2), hS.2.2⟩
theorem ez_newa (hx : p.tables.exec = Jvm.exec) (hb : c.code = cc) (hts : ∀ w ∈ tbl, w.before args s = true) (hK : va_K D cl (ez_tys dA) s) (hR : ez_Rel D cl nf ty dA B h H) (hS : va_S (ez_A B) s.heap H locs) {at_ : ArrayType} {a : Nat} (ha : ez_aty at_ a) (hw : Cond.arrayClass (newarray.typeOf at_) ∈ tbl) {x : Int32} (hx0 : ¬ x < 0) (hx1 : x.toNatClampNeg ≤ 200000) (hc : cells + 1 ≤ R.cells) (hs : slots + x.toNatClampNeg ≤ R.slots) (hd : decode cc pc = .ok (.newarray at_, 2))
    (k : ∀ H1 : Heap, ez_Rel D cl nf ty dA B (ez_new h a x.toNatClampNeg x.toNatClampNeg) H1 → va_S (ez_A B) s.heap H1 locs → W p l e R s m args below meth c H1 locs (cells + 1) (slots + x.toNatClampNeg) Q (F0 m (pc + 2) lsM (.ref (B + (ez_n h + 1)) :: rest))) : W p l e R s m args below meth c H locs cells slots Q (F0 m pc lsM (.int x :: rest)) := by
  have hs0 := hR.1
  have hbytes : x.toNatClampNeg * componentBytes (newarray.typeOf at_) ≤ 536870912 := by
    rcases ha with ⟨rfl, -⟩ | ⟨rfl, -⟩ | ⟨rfl, -⟩
    · show x.toNatClampNeg * 4 ≤ _; omega
    · show x.toNatClampNeg * 8 ≤ _; omega
    · show x.toNatClampNeg * 1 ≤ _; omega
  refine va_newaK hx hb (hts _ hw) rfl hd rfl hx0 rfl hbytes hc hs rfl fun H1 cA e1 z1 o1 hAr hNm => ?_
  have hcell : va_at D cl (H.size, ez_ce nf ty dA B (ez_new h a x.toNatClampNeg x.toNatClampNeg) (ez_n h + 1)) H1 := by
    have ht : ez_t (ez_new h a x.toNatClampNeg x.toNatClampNeg) (ez_n h + 1) = a := by
      show ez_up (ez_t h) (ez_n h + 1) a (ez_n h + 1) = a
      simp [ez_up]
    have hl : ez_l (ez_new h a x.toNatClampNeg x.toNatClampNeg) (ez_n h + 1) = x.toNatClampNeg := by
      show ez_up (ez_l h) (ez_n h + 1) _ (ez_n h + 1) = _
      simp [ez_up]
    have hI : ez_I (ez_new h a x.toNatClampNeg x.toNatClampNeg) (ez_n h + 1) = fun _ => 0 := by
      show ez_row (ez_I h) (ez_n h + 1) _ (ez_n h + 1) = _
      simp [ez_row]
    have hL : ez_L (ez_new h a x.toNatClampNeg x.toNatClampNeg) (ez_n h + 1) = fun _ => 0 := by
      show ez_row (ez_L h) (ez_n h + 1) _ (ez_n h + 1) = _
      simp [ez_row]
    rcases ha with ⟨rfl, rfl⟩ | ⟨rfl, rfl⟩ | ⟨rfl, rfl⟩
    · have hcA : cA = dA 1000 := Option.some.inj (hNm.symm.trans (hK.2 0 _ rfl).2)
      rw [ez_ce_i ht, hl, hI, ← hcA]
      exact e1
    · have hcA : cA = dA 1002 := Option.some.inj (hNm.symm.trans (hK.2 1 _ rfl).2)
      rw [ez_ce_l ht, hl, hL, ← hcA]
      exact e1
    · have hcA : cA = dA 1003 := Option.some.inj (hNm.symm.trans (hK.2 2 _ rfl).2)
      rw [ez_ce_b ht, hl, hI, ← hcA]
      exact e1
  have := k H1 (hR.push z1 o1 hcell) (ez_S_grow hS z1 o1)
  rw [show H.size = B + (ez_n h + 1) by omega]
  exact this
theorem ez_newo (hx : p.tables.exec = Jvm.exec) (hb : c.code = cc) (hown : s.vm.findClass own = some m.cls) (hts : ∀ w ∈ tbl, w.before args s = true) (hK : va_K D cl (ez_tys dA) s) (hR : ez_Rel D cl nf ty dA B h H) (hS : va_S (ez_A B) s.heap H locs) {a idx : Nat} {C : String} {T : u_T} (hC : ez_Cls tbl cl nf ty a C T) (h1 : Cond.classLink own idx C ∈ tbl) (h2 : Cond.instantiable C (nf a) ∈ tbl) (h3 : Cond.initialized C ∈ tbl) (hty : ∀ k, k < nf a → ty a k = .int ∨ ty a k = .boolean ∨ ty a k = .long ∨ (∃ n, ty a k = .object n) ∨ ∃ n, ty a k = .array n)
    (hc : cells + 1 ≤ R.cells) (hs : slots + nf a ≤ R.slots) (hd : decode cc pc = .ok (.new idx, 3))
    (k : ∀ H1 : Heap, ez_Rel D cl nf ty dA B (ez_new h a 0 (nf a)) H1 → va_S (ez_A B) s.heap H1 locs → W p l e R s m args below meth c H1 locs (cells + 1) (slots + nf a) Q (F0 m (pc + 3) lsM (.ref (B + (ez_n h + 1)) :: rest))) : W p l e R s m args below meth c H locs cells slots Q (F0 m pc lsM rest) := by
  have hs0 := hR.1
  obtain ⟨ha0, ha1, hcl, hws, hpd, -⟩ := hC
  have hKn := hK.1 (a - 1) _ hcl
  refine W.newcK hx hb hown (hts _ h1) (hts _ h2) (hts _ h3) rfl hd hc hs hKn.2.1 rfl fun H1 kC hkC e1 z1 o1 => ?_
  have hcell : va_at D cl (H.size, ez_ce nf ty dA B (ez_new h a 0 (nf a)) (ez_n h + 1)) H1 := by
    have ht : ez_t (ez_new h a 0 (nf a)) (ez_n h + 1) = a := by
      show ez_up (ez_t h) (ez_n h + 1) a (ez_n h + 1) = a
      simp [ez_up]
    have hI : ez_I (ez_new h a 0 (nf a)) (ez_n h + 1) = fun _ => 0 := by
      show ez_row (ez_I h) (ez_n h + 1) _ (ez_n h + 1) = _
      simp [ez_row]
    have hL : ez_L (ez_new h a 0 (nf a)) (ez_n h + 1) = fun _ => 0 := by
      show ez_row (ez_L h) (ez_n h + 1) _ (ez_n h + 1) = _
      simp [ez_row]
    have hRr : ez_R (ez_new h a 0 (nf a)) (ez_n h + 1) = fun _ => 0 := by
      show ez_row (ez_R h) (ez_n h + 1) _ (ez_n h + 1) = _
      simp [ez_row]
    rw [ez_ce_obj ht ha1]
    refine ⟨_, hcl, (u_born (ty a) hts hws hKn hkC e1 hpd).to fun j hj => ?_⟩
    show defaultValue (ty a j) = ((List.range (nf a)).map _).getD j .null
    rw [List.getD_eq_getElem?_getD, List.getElem?_map, List.getElem?_range hj]
    show defaultValue (ty a j) = ez_fv B (ty a j) _ _ j
    unfold ez_fv
    rw [hI, hL, hRr]
    rcases hty j hj with z | z | z | ⟨n, z⟩ | ⟨n, z⟩ <;> rw [z] <;> rfl
  have := k H1 (hR.push z1 o1 hcell) (ez_S_grow hS z1 o1)
  show W p l e R s m args below meth c H1 locs (cells + 1) (slots + nf a) Q (F0 m (pc + 3) lsM (.ref H.size :: rest))
  rw [show H.size = B + (ez_n h + 1) by omega]
  exact this
end EZ7
end
section
/-- what links an instruction: sta: the static arrays by their numbers; ini: the method is a constructor -/
def ez_lk (own : String) (tbl : List Cond) (cl : List vw_C) (nf : Nat → Nat) (ty : Nat → Nat → FieldType) (sta : Nat → String × String × String) (ini : Prop) (i : ClassFile.Instr) (a b k : Nat) : Prop := match i with
  | .getfield idx => ∃ (C : String) (T : u_T), ez_Cls tbl cl nf ty a C T ∧ b < nf a ∧ (Cond.fieldLink own idx (T b).1 (T b).2.1 (T b).2.2.1 ∈ tbl ∨ ∃ host, Cond.fieldLinkNest own idx (T b).1 (T b).2.1 (T b).2.2.1 host ∈ tbl) ∧ (k = 0 → ty a b = .int) ∧ (k = 1 → ty a b = .boolean) ∧ (k = 2 → ty a b = .long) ∧ (3 ≤ k → (∃ n, ty a b = .object n) ∨ ∃ n, ty a b = .array n)
  | .putfield idx => ∃ (C : String) (T : u_T), ez_Cls tbl cl nf ty a C T ∧ b < nf a ∧ (((T b).2.2.2 = false ∧ (Cond.fieldLink own idx (T b).1 (T b).2.1 (T b).2.2.1 ∈ tbl ∨ ∃ host, Cond.fieldLinkNest own idx (T b).1 (T b).2.1 (T b).2.2.1 host ∈ tbl)) ∨ ((T b).2.2.2 = true ∧ ini ∧ (T b).1 = own ∧ Cond.fieldLink own idx (T b).1 (T b).2.1 (T b).2.2.1 ∈ tbl)) ∧ (k = 0 → ty a b = .int) ∧ (k = 1 → ty a b = .boolean) ∧ (k = 2 → ty a b = .long) ∧ (3 ≤ k → (∃ n, ty a b = .object n) ∨ ∃ n, ty a b = .array n)
  | .getstatic idx => 0 < a ∧ (Cond.fieldLink own idx (sta a).1 (sta a).2.1 (sta a).2.2 ∈ tbl ∨ ∃ host, Cond.fieldLinkNest own idx (sta a).1 (sta a).2.1 (sta a).2.2 host ∈ tbl)
  | .newarray at_ => ez_aty at_ a ∧ Cond.arrayClass (newarray.typeOf at_) ∈ tbl
  | .new idx => ∃ (C : String) (T : u_T), ez_Cls tbl cl nf ty a C T ∧ b = nf a ∧ Cond.classLink own idx C ∈ tbl ∧ Cond.instantiable C (nf a) ∈ tbl ∧ Cond.initialized C ∈ tbl ∧ ∀ k, k < nf a → ty a k = .int ∨ ty a k = .boolean ∨ ty a k = .long ∨ (∃ n, ty a k = .object n) ∨ ∃ n, ty a k = .array n
  | .invokespecial idx => k = 0 → Cond.methodLink own idx Lib.objectInit ∈ tbl ∧ Cond.instanceMethod Lib.objectInit ∈ tbl ∧ Cond.code Lib.objectInit ⟨#[0xb1]⟩ 1 none ∈ tbl
  | .invokestatic idx => (k = 1 → Cond.methodLink own idx Lib.Math.max.name ∈ tbl ∧ Cond.static Lib.Math.max.name ∈ tbl ∧ Cond.initialized "java/lang/Math" ∈ tbl ∧ Cond.code Lib.Math.max.name Lib.Math.max.code 2 (some .int) ∈ tbl) ∧ (k = 2 → Cond.methodLink own idx Lib.Math.min.name ∈ tbl ∧ Cond.static Lib.Math.min.name ∈ tbl ∧ Cond.initialized "java/lang/Math" ∈ tbl ∧ Cond.code Lib.Math.min.name Lib.Math.min.code 2 (some .int) ∈ tbl) ∧ (3 ≤ k → Cond.methodLink own idx arraycopyName ∈ tbl ∧ Cond.native arraycopyName ∈ tbl ∧ Cond.static arraycopyName ∈ tbl ∧ Cond.initialized "java/lang/System" ∈ tbl)
  | _ => True
theorem ez_fv_ref {B : Nat} {t : FieldType} {h : ez_H} {q b : Nat} (ht : (∃ n, t = .object n) ∨ ∃ n, t = .array n) (hne : ¬ ez_R h q b = 0) : ez_fv B t h q b = .ref (B + ez_R h q b) := by
  rcases ht with ⟨n, rfl⟩ | ⟨n, rfl⟩ <;> (unfold ez_fv; simp only; rw [if_neg hne])
/-- what a field of another place holds stays -/
theorem ez_fv_I {B : Nat} {t : FieldType} {h : ez_H} {q b k : Nat} {x : Int32} (hk : k ≠ b) : ez_fv B t (ez_setI h q b x) q k = ez_fv B t h q k := by
  unfold ez_fv
  rw [show ez_I (ez_setI h q b x) q k = ez_I h q k from ez_up2_el hk]
  rfl
theorem ez_fv_L {B : Nat} {t : FieldType} {h : ez_H} {q b k : Nat} {x : Int64} (hk : k ≠ b) : ez_fv B t (ez_setL h q b x) q k = ez_fv B t h q k := by
  unfold ez_fv
  rw [show ez_L (ez_setL h q b x) q k = ez_L h q k from ez_up2_el hk]
  rfl
theorem ez_fv_R {B : Nat} {t : FieldType} {h : ez_H} {q b k : Nat} {x : Nat} (hk : k ≠ b) : ez_fv B t (ez_setR h q b x) q k = ez_fv B t h q k := by
  unfold ez_fv
  rw [show ez_R (ez_setR h q b x) q k = ez_R h q k from ez_up2_el hk]
  rfl
theorem ez_few_map {B : Nat} {ea : Nat → Nat} {r : List Value} (h : ez_few r = true) : ((r.map (ez_tr B ea)).map fun v => v.category).sum ≤ 8 := by
  have : ((r.map (ez_tr B ea)).map fun v => v.category) = r.map fun v => v.category := by
    rw [List.map_map]
    apply List.map_congr_left
    intro v _
    exact ez_tr_cat B ea v
  rw [this]
  exact Nat.le_of_ble_eq_true h
section EZ8
variable {p : Program} {l : Launch} {e : Env} {R : Room} {s : State} {m : MethodId} {args : Array Value} {below : List Frame} {meth : Method} {c : Code} {H : Heap} {locs : List Loc} {cells slots : Nat} {Q : State → Prop} {cc : ByteArray} {pc nL B : Nat} {ea : Nat → Nat} {lsM : Array Slot} {own : String} {tbl : List Cond} {st st' : List Value} {ls : List (Option Value)} {i : ClassFile.Instr}
variable {D : va_G} {cl : List vw_C} {nf : Nat → Nat} {ty : Nat → Nat → FieldType} {dA : Nat → ClassId} {h h' : ez_H} {sta : Nat → String × String × String} {E : Nat → Nat × (Nat → Int32)} {a b k n0 u0 : Nat} {cd : Prop}
set_option maxHeartbeats 2000000 in
theorem ez_sm_snd (hx : p.tables.exec = Jvm.exec) (hb : c.code = cc) (hml : c.maxLocals = lsM.size) (hown : s.vm.findClass own = some m.cls) (hts : ∀ w ∈ tbl, w.before args s = true) (hK : va_K D cl (ez_tys dA) s) (hR : ez_Rel D cl nf ty dA B h H) (hS : va_S (ez_A B) s.heap H locs)
    (hT : ∀ j, va_T .int (ea j) (E j).1 (fun i => .int ((E j).2 i)) (ez_A B) s s.heap) (hZ : ∀ j, 0 < j → va_Z (sta j).1 (sta j).2.1 (sta j).2.2 (.ref (ea j)) (ez_A B) s s.heap)
    (hs0 : s.heap.size = B + 1 + n0) (hn0 : n0 + cells = ez_n h) (hu0 : u0 + slots = ez_u h) (hn1 : ez_n h ≤ ez_MC) (hu1 : ez_u h ≤ ez_MS) (hcR : ez_MC ≤ n0 + R.cells) (hsR : ez_MS ≤ u0 + R.slots) (hfr : 1 ≤ R.frames) (hlo : 40 ≤ R.locals)
    (hd : decode cc pc = .ok (i, ez_ln i)) (hlk : ez_lk own tbl cl nf ty sta (meth.name = "<init>") i a b k) (ho : ez_sm E i a b k ls st h = some (cd, st', h')) (hcd : cd)
    (kk : ∀ (H1 : Heap) (locs1 : List Loc) (cells1 slots1 : Nat), ez_Rel D cl nf ty dA B h' H1 → va_S (ez_A B) s.heap H1 locs1 → n0 + cells1 = ez_n h' → u0 + slots1 = ez_u h' → ez_n h' ≤ ez_MC → ez_u h' ≤ ez_MS → W p l e R s m args below meth c H1 locs1 cells1 slots1 Q (F0 m (pc + ez_ln i) lsM (st'.map (ez_tr B ea)))) : W p l e R s m args below meth c H locs cells slots Q (F0 m pc lsM (st.map (ez_tr B ea))) := by
  have hsz : s.heap.size + cells = B + 1 + ez_n h := by omega
  have same : h' = h → W p l e R s m args below meth c H locs cells slots Q (F0 m (pc + ez_ln i) lsM (st'.map (ez_tr B ea))) := fun q => by
    subst q
    exact kk H locs cells slots hR hS hn0 hu0 hn1 hu1
  unfold ez_sm at ho
  split at ho
  · -- getfield
    obtain ⟨C, T, hC, hbn, hl, t0, t1, t2, t3⟩ := hlk
    split at ho
    · split at ho <;> cases ho
      · refine ez_getf hx hb hown hts hK hR hC hbn hcd hl hd ?_
        rw [t0 rfl]
        exact same rfl
      · refine ez_getf hx hb hown hts hK hR hC hbn hcd hl hd ?_
        rw [t1 rfl]
        exact same rfl
      · refine ez_getf hx hb hown hts hK hR hC hbn hcd hl hd ?_
        rw [t2 rfl]
        exact same rfl
      · refine ez_getf hx hb hown hts hK hR hC hbn hcd.1 hl hd ?_
        rw [ez_fv_ref (t3 (Nat.le_refl _)) hcd.2]
        exact same rfl
      · refine ez_getf hx hb hown hts hK hR hC hbn hcd.1 hl hd ?_
        rw [ez_fv_ref (t3 (by omega)) (by rw [hcd.2]; omega), hcd.2]
        exact same rfl
    · cases ho
  · -- putfield
    obtain ⟨C, T, hC, hbn, hl, t0, t1, t2, t3⟩ := hlk
    split at ho
    · split at ho <;> cases ho
      rename_i x q
      exact ez_putf hx hb hown hts hK hR hS hsz hC hbn hcd hl hd (by rw [t0 rfl]; rfl) (by rw [t0 rfl]; rfl) (ez_setI h q b x) rfl (fun _ => rfl) (fun r hr => ez_ce_same rfl rfl (by rw [ez_setI_I, ez_up2_ne hr]) rfl rfl) (fun k hk => ez_fv_I hk) (by rw [t0 rfl]; exact congrArg Value.int ez_up2_at) fun H1 locs1 r1 s1 => kk H1 locs1 cells slots r1 s1 hn0 hu0 hn1 hu1
    · split at ho <;> cases ho
      rename_i x q
      exact ez_putf hx hb hown hts hK hR hS hsz hC hbn hcd.1 hl hd (by rw [t1 rfl]; rcases hcd.2 with z | z <;> rw [z] <;> rfl) (by rw [t1 rfl]; rcases hcd.2 with z | z <;> rw [z] <;> rfl) (ez_setI h q b x) rfl (fun _ => rfl) (fun r hr => ez_ce_same rfl rfl (by rw [ez_setI_I, ez_up2_ne hr]) rfl rfl) (fun k hk => ez_fv_I hk) (by rw [t1 rfl]; exact congrArg Value.int ez_up2_at) fun H1 locs1 r1 s1 => kk H1 locs1 cells slots r1 s1 hn0 hu0 hn1 hu1
    · split at ho <;> cases ho
      rename_i x q
      exact ez_putf hx hb hown hts hK hR hS hsz hC hbn hcd hl hd (by rw [t2 rfl]; rfl) (by rw [t2 rfl]; rfl) (ez_setL h q b x) rfl (fun _ => rfl) (fun r hr => ez_ce_same rfl rfl rfl (ez_up2_ne hr) rfl) (fun k hk => ez_fv_L hk) (by rw [t2 rfl]; exact congrArg Value.long ez_up2_at) fun H1 locs1 r1 s1 => kk H1 locs1 cells slots r1 s1 hn0 hu0 hn1 hu1
    · split at ho <;> cases ho
      rename_i q1 q2
      have hz := t3 (by omega)
      have e1 : ez_R (ez_setR h q2 b q1) q2 b = q1 := ez_up2_at
      refine ez_putf hx hb hown hts hK hR hS hsz hC hbn hcd.1 hl hd (v := .ref (B + q1)) (by rcases hz with ⟨n, z⟩ | ⟨n, z⟩ <;> rw [z] <;> rfl) (by rcases hz with ⟨n, z⟩ | ⟨n, z⟩ <;> rw [z] <;> rfl) (ez_setR h q2 b q1) rfl (fun _ => rfl) (fun r hr => ez_ce_same rfl rfl rfl rfl (ez_up2_ne hr)) (fun k hk => ez_fv_R hk) ?_ fun H1 locs1 r1 s1 => kk H1 locs1 cells slots r1 s1 hn0 hu0 hn1 hu1
      rw [ez_fv_ref hz (by rw [e1]; exact hcd.2), e1]
  · -- getstatic
    cases ho
    obtain ⟨ha, hl | ⟨host, hl⟩⟩ := hlk
    · exact va_gets hx hb (hZ a ha) hS hown (hts _ hl) (fun _ z => z) hd (same rfl)
    · exact va_getsN hx hb (hZ a ha) hS hown (hts _ hl) (fun _ z => z) hd (same rfl)
  · -- iaload
    split at ho <;> cases ho
    · exact ez_ald hx hb hK hR hcd.1 hcd.2 hd (same rfl)
    · rename_i x j r
      exact va_ti hx hb (hT j) hS hcd rfl hd (same rfl)
  · split at ho <;> cases ho
    exact ez_bald hx hb hK hR hcd.1 hcd.2 hd (same rfl)
  · split at ho <;> cases ho
    exact ez_lald hx hb hK hR hcd.1 hcd.2 hd (same rfl)
  · split at ho <;> cases ho
    exact ez_ast hx hb hK hR hS hsz hcd.1 hcd.2 hd fun H1 locs1 r1 s1 => kk H1 locs1 cells slots r1 s1 hn0 hu0 hn1 hu1
  · split at ho <;> cases ho
    exact ez_bast hx hb hK hR hS hsz hcd.1 hcd.2 hd fun H1 locs1 r1 s1 => kk H1 locs1 cells slots r1 s1 hn0 hu0 hn1 hu1
  · split at ho <;> cases ho
    exact ez_last hx hb hK hR hS hsz hcd.1 hcd.2 hd fun H1 locs1 r1 s1 => kk H1 locs1 cells slots r1 s1 hn0 hu0 hn1 hu1
  · -- arraylength
    split at ho <;> cases ho
    · exact ez_alen hx hb hK hR hcd hd (same rfl)
    · rename_i j r
      exact va_tlen hx hb (hT j) hS rfl hd (same rfl)
  · split at ho <;> cases ho
    exact lv_idiv hx hb hd hcd (same rfl)
  · split at ho <;> cases ho
    exact lv_irem hx hb hd hcd (same rfl)
  · -- newarray
    split at ho <;> cases ho
    obtain ⟨g1, g2, g3, g4⟩ := hcd
    refine ez_newa hx hb hts hK hR hS hlk.1 hlk.2 g1 g2 (by omega) (by omega) hd fun H1 r1 s1 => kk H1 locs _ _ r1 s1 ?_ ?_ g3 g4
    · show n0 + (cells + 1) = ez_n h + 1
      omega
    · show u0 + (slots + _) = ez_u h + _
      omega
  · -- new
    cases ho
    obtain ⟨C, T, hC, rfl, h1, h2, h3, h4⟩ := hlk
    obtain ⟨g3, g4⟩ := hcd
    refine ez_newo hx hb hown hts hK hR hS hC h1 h2 h3 h4 (by omega) (by omega) hd fun H1 r1 s1 => kk H1 locs _ _ r1 s1 ?_ ?_ g3 g4
    · show n0 + (cells + 1) = ez_n h + 1
      omega
    · show u0 + (slots + _) = ez_u h + _
      omega
  · -- Object.<init>
    split at ho
    · split at ho <;> cases ho
      obtain ⟨h1, h2, h3⟩ := hlk rfl
      have hw := ez_few_map (B := B) (ea := ea) hcd
      refine W.objInit hx hb hown (hts _ h1) (hts _ h2) (hts _ h3) rfl hml.symm rfl hd hfr ?_ (same rfl)
      show 2 * 0 + _ + 12 ≤ _
      omega
    · cases ho
  · -- max, min, arraycopy
    obtain ⟨l1, l2, l3⟩ := hlk
    split at ho
    · cases ho
    · split at ho <;> cases ho
      obtain ⟨h1, h2, h3, h4⟩ := l1 rfl
      have hw := ez_few_map (B := B) (ea := ea) hcd
      exact va_mmax hx hb hml hown (hts _ h1) (hts _ h2) (hts _ h3) (hts _ h4) hfr (by omega) (by omega) (by omega) hd (same rfl)
    · split at ho <;> cases ho
      obtain ⟨h1, h2, h3, h4⟩ := l2 rfl
      have hw := ez_few_map (B := B) (ea := ea) hcd
      exact va_mmin hx hb hml hown (hts _ h1) (hts _ h2) (hts _ h3) (hts _ h4) hfr (by omega) (by omega) (by omega) hd (same rfl)
    · split at ho <;> cases ho
      obtain ⟨h1, h2, h3, h4⟩ := l3 (by omega)
      obtain ⟨g0, ⟨g1, g2⟩, g3, g4, g5, g6, g7⟩ := hcd
      have hw := ez_few_map (B := B) (ea := ea) g0
      have e1 : nativeFrameWords "java/lang/System" "arraycopy" 5 = 7 := by decide
      exact ez_copy hx hb hml hown hts h1 h2 h3 h4 hK hR hS hsz g1 g2 g3 g4 g5 g6 g7 hfr (by rw [e1]; omega) hd fun H1 locs1 r1 s1 => kk H1 locs1 cells slots r1 s1 hn0 hu0 hn1 hu1
  · cases ho
end EZ8
end
section
/-- how the machine ends where the pure one ends with r -/
def ez_Out (B : Nat) (ea : Nat → Nat) (exn : Nat → String) (s : State) (r : ez_O) (o : Outcome) (t : State) : Prop := match r with
  | .inl v => o = .returned (v.map (ez_tr B ea))
  | .inr x => ∃ (a : Addr) (cell : Cell), o = .threw a ∧ t.heap[a]? = some cell ∧ cell.vm.isStatics = false ∧ s.vm.findClass (exn x) = some cell.cls
def ez_End (D : va_G) (cl : List vw_C) (nf : Nat → Nat) (ty : Nat → Nat → FieldType) (dA : Nat → ClassId) (B : Nat) (ea : Nat → Nat) (exn : Nat → String) (s : State) (n0 u0 : Nat) (Q : ez_Q) (o : Outcome) (t : State) : Prop :=
  ∃ (r : ez_O) (h' : ez_H), Q r h' ∧ ez_Out B ea exn s r o t ∧ ez_Rel D cl nf ty dA B h' t.heap ∧ s.WarmedH t.vm ∧ (n0 ≤ ez_n h' ∧ u0 ≤ ez_u h' ∧ ez_n h' ≤ ez_MC ∧ ez_u h' ≤ ez_MS) ∧ (∀ q : Nat, q < s.heap.size → ¬ ez_A B q → t.heap[q]? = s.heap[q]?) ∧ s.heap.size ≤ t.heap.size ∧
    ∃ L : List Loc, s.sameButNew ({ t with vm := s.vm } : State) L (ez_n h' - n0) (ez_u h' - u0) ∧ ∀ q ∈ L, ez_A B q.base
def ez_Fin (D : va_G) (cl : List vw_C) (nf : Nat → Nat) (ty : Nat → Nat → FieldType) (dA : Nat → ClassId) (B : Nat) (ea : Nat → Nat) (exn : Nat → String) (below : List Frame) (s : State) (n0 u0 : Nat) (Q : ez_Q) : State → Prop := fun t => ∃ o : Outcome, t.status = .running ∧ Ended t below o ∧ ez_End D cl nf ty dA B ea exn s n0 u0 Q o t
section EZ9
variable {p : Program} {l : Launch} {e : Env} {R : Room} {s : State} {m : MethodId} {args : Array Value} {below : List Frame} {meth : Method} {c : Code} {H : Heap} {locs : List Loc} {cells slots : Nat} {cc : ByteArray} {pc nL B : Nat} {ea : Nat → Nat} {lsM : Array Slot} {own : String} {tbl : List Cond} {st st' : List Value} {ls : List (Option Value)} {i : ClassFile.Instr}
variable {D : va_G} {cl : List vw_C} {nf : Nat → Nat} {ty : Nat → Nat → FieldType} {dA : Nat → ClassId} {h h' : ez_H} {a n0 u0 : Nat} {cd : Prop} {Q : ez_Q} {exn : Nat → String}
theorem ez_W_mono {Q1 Q2 : State → Prop} {g : JFrame} (hQ : ∀ t, Q1 t → Q2 t) (k : W p l e R s m args below meth c H locs cells slots Q1 g) : W p l e R s m args below meth c H locs cells slots Q2 g := fun T hT X => by
  obtain ⟨t, a1, b1⟩ := k T hT X
  exact ⟨t, a1, hQ t b1⟩
/-- the end of a method, as the pure machine sees it -/
theorem ez_fin_of {r : Option Value} (hR : ez_Rel D cl nf ty dA B h H) (hS : va_S (ez_A B) s.heap H locs) (hn0 : n0 + cells = ez_n h) (hu0 : u0 + slots = ez_u h) (hn1 : ez_n h ≤ ez_MC) (hu1 : ez_u h ≤ ez_MS) (hQ : Q (.inl r) h) {t : State}
    (ht : MQ below (fun _ st o t => o = .returned (r.map (ez_tr B ea)) ∧ t.heap = H) args s cells slots (ez_A B) t) : ez_Fin D cl nf ty dA B ea exn below s n0 u0 Q t := by
  obtain ⟨o, h1, h2, ⟨h3, h4⟩, L, ⟨-, h5, h6⟩, h7⟩ := ht
  refine ⟨o, h1, h2, .inl r, h, hQ, h3, by rw [h4]; exact hR, h5, ⟨by omega, by omega, hn1, hu1⟩, fun q g1 g2 => by rw [h4]; exact hS.2.1 q g1 g2, by rw [h4]; exact hS.1, L, ?_, h7⟩
  rw [show ez_n h - n0 = cells by omega, show ez_u h - u0 = slots by omega]
  exact h6
theorem ez_rt_snd (hx : p.tables.exec = Jvm.exec) (hb : c.code = cc) (hlocks : meth.locks = false) (hret : (i = .ireturn → meth.sig.returnType = if a = 0 then some .int else some .boolean) ∧ (i = .lreturn → meth.sig.returnType = some .long) ∧ (i = .return_ → meth.sig.returnType = none)) (hR : ez_Rel D cl nf ty dA B h H) (hS : va_S (ez_A B) s.heap H locs) (hn0 : n0 + cells = ez_n h) (hu0 : u0 + slots = ez_u h) (hn1 : ez_n h ≤ ez_MC) (hu1 : ez_u h ≤ ez_MS)
    (hd : decode cc pc = .ok (i, ez_ln i)) {r : Option Value} (ho : ez_rt i a st = some (cd, r)) (hcd : cd) (hQ : Q (.inl r) h) : W p l e R s m args below meth c H locs cells slots (ez_Fin D cl nf ty dA B ea exn below s n0 u0 Q) (F0 m pc lsM (st.map (ez_tr B ea))) := by
  unfold ez_rt at ho
  split at ho
  · split at ho <;> cases ho
    have h1 := hret.1 rfl
    cases a with
    | zero =>
      refine ez_W_mono (fun t ht => ez_fin_of hR hS hn0 hu0 hn1 hu1 hQ ht) (W.iret hx hb h1 (fun t ht _ => ⟨rfl, ht⟩) hS.2.2 hd (hlocks := hlocks))
    | succ a =>
      refine ez_W_mono (fun t ht => ez_fin_of hR hS hn0 hu0 hn1 hu1 hQ ht) (W.zret hx hb h1 (by rcases hcd with z | z <;> rw [z] <;> rfl) (fun t ht _ => ⟨rfl, ht⟩) hS.2.2 hd (hlocks := hlocks))
  · split at ho <;> cases ho
    have h1 := hret.2.1 rfl
    exact ez_W_mono (fun t ht => ez_fin_of hR hS hn0 hu0 hn1 hu1 hQ ht) (W.lret hx hb h1 (fun t ht _ => ⟨rfl, ht⟩) hS.2.2 hd (hlocks := hlocks))
  · split at ho <;> cases ho
    have h1 := hret.2.2 rfl
    exact ez_W_mono (fun t ht => ez_fin_of hR hS hn0 hu0 hn1 hu1 hQ ht) (W.vret hx hb h1 (fun t ht _ => ⟨rfl, ht⟩) hS.2.2 hd (hlocks := hlocks))
  · cases ho
end EZ9
/-! switches -/
theorem ez_sw_off {pc : Nat} {df : Int} {x : Int32} {K : Nat → Prop} : ∀ l : List (Int × Int), (∀ q ∈ l, (Int32.ofInt q.1).toInt = q.1) → ez_sw pc df x K l → K ((pc : Int) + Op.lookupswitch.offset l df x.toInt).toNat
  | [], _, H => H
  | (c, o) :: r, hr, H => by
    have hc : (Int32.ofInt c).toInt = c := hr (c, o) List.mem_cons_self
    by_cases hx : x = Int32.ofInt c
    · have := H.1 hx
      have e1 : Op.lookupswitch.offset ((c, o) :: r) df x.toInt = o := by
        rw [hx, hc]
        simp [Op.lookupswitch.offset]
      rw [e1]
      exact this
    · rw [lv_osw (k := Int32.ofInt c) hx hc]
      exact ez_sw_off r (fun q hq => hr q (List.mem_cons_of_mem _ hq)) (H.2 hx)
theorem ez_tab_off {df z : Int} : ∀ (os : List Int) (lo : Int), Op.lookupswitch.offset (ez_tab lo os) df z = if lo ≤ z ∧ z < lo + os.length then os.getD (z - lo).toNat 0 else df
  | [], lo => by
    have : ¬ (lo ≤ z ∧ z < lo + (([] : List Int).length : Int)) := by simp
    rw [if_neg this]
    rfl
  | o :: r, lo => by
    have ih := ez_tab_off (df := df) (z := z) r (lo + 1)
    by_cases hz : z = lo
    · subst hz
      rw [if_pos (by simp; omega)]
      simp [ez_tab, Op.lookupswitch.offset]
    · have e1 : Op.lookupswitch.offset (ez_tab lo (o :: r)) df z = Op.lookupswitch.offset (ez_tab (lo + 1) r) df z := by
        simp [ez_tab, Op.lookupswitch.offset, Ne.symm hz]
      rw [e1, ih]
      by_cases hc : lo + 1 ≤ z ∧ z < lo + 1 + r.length
      · rw [if_pos hc, if_pos (by simp; omega)]
        rw [show (z - lo).toNat = (z - (lo + 1)).toNat + 1 by omega]
        simp
      · rw [if_neg hc, if_neg (by simp; omega)]
/-- where a jump leads is a place of the code -/
def ez_jk (i : ClassFile.Instr) (pc a : Nat) : Prop := match i with
  | .goto off => (pc : Int) + off = (a : Int)
  | .tableswitch df lo hi os => (∀ o ∈ os.toList, 0 ≤ (pc : Int) + o) ∧ 0 ≤ (pc : Int) + df ∧ hi = lo + os.toList.length - 1 ∧ ∀ q ∈ ez_tab lo os.toList, (Int32.ofInt q.1).toInt = q.1
  | .lookupswitch df ps => (∀ q ∈ ps.toList, 0 ≤ (pc : Int) + q.2) ∧ 0 ≤ (pc : Int) + df ∧ (ps.toList.zip (ps.toList.drop 1)).all (fun (a, next) => a.1 < next.1) = true ∧ ∀ q ∈ ps.toList, (Int32.ofInt q.1).toInt = q.1
  | _ => True
theorem ez_off_in {pc : Nat} {df z : Int} : ∀ l : List (Int × Int), (∀ q ∈ l, 0 ≤ (pc : Int) + q.2) → 0 ≤ (pc : Int) + df → 0 ≤ (pc : Int) + Op.lookupswitch.offset l df z
  | [], _, hd => hd
  | (c, o) :: r, hl, hd => by
    by_cases hz : z = c
    · rw [hz]
      have e1 : Op.lookupswitch.offset ((c, o) :: r) df c = o := by simp [Op.lookupswitch.offset]
      rw [e1]
      exact hl (c, o) List.mem_cons_self
    · have e1 : Op.lookupswitch.offset ((c, o) :: r) df z = Op.lookupswitch.offset r df z := by simp [Op.lookupswitch.offset, Ne.symm hz]
      rw [e1]
      exact ez_off_in r (fun q hq => hl q (List.mem_cons_of_mem _ hq)) hd
theorem ez_tab_mem : ∀ (os : List Int) (lo : Int), ∀ q ∈ ez_tab lo os, q.2 ∈ os
  | [], _, _, h => by cases h
  | o :: r, lo, q, h => by
    rcases List.mem_cons.mp h with rfl | h
    · exact List.mem_cons_self
    · exact List.mem_cons_of_mem _ (ez_tab_mem r (lo + 1) q h)
section EZ10
variable {p : Program} {l : Launch} {e : Env} {R : Room} {s : State} {m : MethodId} {args : Array Value} {below : List Frame} {meth : Method} {c : Code} {H : Heap} {locs : List Loc} {cells slots : Nat} {cc : ByteArray} {pc B a : Nat} {ea : Nat → Nat} {lsM : Array Slot} {st st' : List Value} {i : ClassFile.Instr} {Q : State → Prop}
theorem ez_jp_snd (hx : p.tables.exec = Jvm.exec) (hb : c.code = cc) {len : Nat} (hd : decode cc pc = .ok (i, len)) (hlen : ∀ o, i = .goto o → len = 3) (hj : ez_jk i pc a) {J : (Nat → Prop) → Prop} (ho : ez_jp i pc a st = (some J, st')) {K : Nat → Prop} (hJ : J K)
    (k : ∀ t, K t → W p l e R s m args below meth c H locs cells slots Q (F0 m t lsM (st'.map (ez_tr B ea)))) : W p l e R s m args below meth c H locs cells slots Q (F0 m pc lsM (st.map (ez_tr B ea))) := by
  unfold ez_jp at ho
  split at ho
  · rename_i off
    cases ho
    have h3 : len = 3 := hlen off rfl
    subst h3
    exact lv_goto hx hb hd hj (k a hJ)
  · rename_i df lo hi os
    split at ho <;> cases ho
    rename_i x
    obtain ⟨j1, j2, j3, j4⟩ := hj
    have hk := ez_sw_off _ j4 hJ
    have hpos := ez_off_in (pc := pc) (df := df) (z := x.toInt) (ez_tab lo os.toList) (fun q hq => j1 _ (ez_tab_mem _ _ q hq)) j2
    have hoff := ez_tab_off (df := df) (z := x.toInt) os.toList lo
    by_cases hc : lo ≤ x.toInt ∧ x.toInt < lo + os.toList.length
    · rw [if_pos hc] at hoff
      have hlt : (x.toInt - lo).toNat < os.toList.length := by omega
      have hget : os[(x.toInt - lo).toNat]? = some (Op.lookupswitch.offset (ez_tab lo os.toList) df x.toInt) := by
        rw [hoff, ← Array.getElem?_toList, List.getElem?_eq_getElem hlt, List.getD_eq_getElem?_getD, List.getElem?_eq_getElem hlt]
        rfl
      refine lv_tableIn hx hb hd (by omega) (by omega) hget (tgt := _) ?_ (k _ hk)
      omega
    · rw [if_neg hc] at hoff
      refine lv_tableOut hx hb hd (by omega) (tgt := _) ?_ (k _ hk)
      rw [hoff]
      rw [hoff] at hpos
      omega
  · rename_i df ps
    split at ho <;> cases ho
    rename_i x
    obtain ⟨j1, j2, j3, j4⟩ := hj
    have hk := ez_sw_off _ j4 hJ
    have hpos := ez_off_in (pc := pc) (df := df) (z := x.toInt) ps.toList j1 j2
    refine lv_lookup hx hb hd j3 rfl (tgt := _) ?_ (k _ hk)
    omega
  · cases ho
end EZ10
end
section
/-! A CALL, HOWEVER IT ENDS -/
section EZ11
variable {p : Program} {l : Launch} {e : Env} {R : Room} {s : State} {m : MethodId} {sargs : Array Value} {below : List Frame} {meth : Method} {c : Code} {U : State} {locs : List Loc} {cells slots : Nat}
/-- the caller behind a call that left t: heap, book and tables are the callee's -/
abbrev ez_bk (U t : State) : State := (({ U with heap := t.heap, slotsUsed := t.slotsUsed } : State).setVm t.vm)
noncomputable def ez_bkTo (g : JFrame) (V : State) (o : Outcome) : State := match o with
  | .returned v => V.setTop { g with pc := g.pc + 3, stack := v.toList ++ g.stack }
  | .threw x => (V.setTop g).pushFrame (.throwing x)
/-- only frames, heap, book and tables move in a call: so the state behind it is the caller's, with other frames -/
theorem ez_bk_eq {g : JFrame} {mk : MethodId} {a : Array Value} {t : State} {L : List Loc} {k n : Nat} (htop : U.topJava?.isSome) (hs : (U.calling g mk a).sameButNew ({ t with vm := (U.calling g mk a).vm } : State) L k n) : t = (ez_bk U t).setFrames t.frames := by
  have h1 : ({ t with vm := (U.calling g mk a).vm } : State) = { (U.calling g mk a).setFrames t.frames with heap := t.heap, slotsUsed := t.slotsUsed } := hs.1
  have h2 : (U.calling g mk a).setFrames t.frames = U.setFrames t.frames := by
    rw [State.calling_eq htop, State.setFrames_setFrames]
  rw [h2] at h1
  exact congrArg (fun z : State => z.setVm t.vm) h1
theorem ez_bk_stand (X : Stand p l e R s m sargs below meth c U locs cells slots) {g : JFrame} {mk : MethodId} {a : Array Value} {t : State} {L : List Loc} {k n : Nat} (hW : (U.calling g mk a).WarmedH t.vm) (hs : (U.calling g mk a).sameButNew ({ t with vm := (U.calling g mk a).vm } : State) L k n) : Stand p l e R s m sargs below meth c (ez_bk U t) (locs ++ L) (cells + k) (slots + n) := by
  have hWU : U.WarmedH t.vm := hW
  obtain ⟨g₀, hfr⟩ := X.frames_eq
  obtain ⟨z, hz, -⟩ := State.frames_cons hfr
  refine X.moved ((X.here.setHeapUsed t.heap t.slotsUsed).setVm hWU.alike) X.tail rfl rfl hWU ⟨?_, hs.2⟩
  show ({ U with heap := t.heap, slotsUsed := t.slotsUsed } : State) = { U.setFrames U.frames with heap := t.heap, slotsUsed := t.slotsUsed }
  rw [State.setFrames_self hz]
theorem ez_back {y : MethodName} {S : Spec} {P : Array Value → State → Prop} {Qf : Array Value → State → Outcome → State → Prop} (hM : MetFree l y S P (fun _ _ _ _ _ => True) Qf) {maxL : Nat} (hframes : S.room.frames + 1 ≤ R.frames) (hlocals : 8 + (maxL + 11) + S.room.locals ≤ R.locals)
    (X : Stand p l e R s m sargs below meth c U locs cells slots) {g : JFrame} {ig : Instr} {mk : MethodId} {a : Array Value} (hg : g.method = m) (hsize : g.locals.size = c.maxLocals) (hdg : decode c.code g.pc = .ok (ig, 3)) (hW : 2 * g.monitorRoom + (g.stack.map fun v => v.category).sum ≤ 8) (hn : U.methodNamed? y = some mk)
    {methY : Method} {cY : Code} (hmY : U.vm.method? mk = some methY) (hcY : methY.code = some cY) (hlY : cY.maxLocals = maxL) (hini : (Cond.initialized y.cls).before a U = true) (hpre : S.pre.before a U = true) (hcells : cells + S.room.cells ≤ R.cells) (hslots : slots + S.room.slots ≤ R.slots) (hP : P a (U.calling g mk a)) :
    ∃ (o : Outcome) (t : State), Qf a (U.calling g mk a) o t ∧ ∀ (L : List Loc) (k n : Nat), (U.calling g mk a).WarmedH t.vm → (U.calling g mk a).sameButNew ({ t with vm := (U.calling g mk a).vm } : State) L k n →
      Stand p l e R s m sargs below meth c (ez_bk U t) (locs ++ L) (cells + k) (slots + n) ∧ Steps p.tables e below (doInvoke e (U.setTop g) [] mk a).1 (ez_bkTo g (ez_bk U t) o) := by
  subst hg
  have hat := X.here
  obtain ⟨g₀, hfr⟩ := X.frames_eq
  obtain ⟨kY, hkY, -⟩ := className_of_methodNamed hn
  have hroom := X.room_calling (g := g) (R' := S.room) (m' := mk) (args' := a) hsize hmY hcY hframes (by rw [hlY]; omega) hcells hslots
  have happ := Spec.appliesLoose_calling (S := S) (e := e) (args := a) (g := g) hat hdg hn hkY (Cond.initialized_spec (findClass_of_methodNamed hn) hkY hini) hroom hpre
  have hft : (U.setTop g).frames = .java g :: below := by rw [State.frames_setTop' g hat.top, X.tail]
  obtain ⟨o, t, hsteps, -, hend, hq⟩ := Steps.callFree hM p X.admits X.cas X.clock (acts := []) (mid := [.java g]) hft happ hP trivial
  refine ⟨o, t, hq, fun L k n hW2 hs2 => ⟨ez_bk_stand X hW2 hs2, ?_⟩⟩
  have he := ez_bk_eq hat.top hs2
  rw [hft] at hend
  have hfb : (ez_bk U t).frames = .java g₀ :: below := hfr
  suffices hkey : t = ez_bkTo g (ez_bk U t) o by rw [← hkey]; exact hsteps
  cases o with
  | threw x =>
    have hf : t.frames = .throwing x :: .java g :: below := hend
    rw [hf] at he
    show t = ((ez_bk U t).setTop g).pushFrame (.throwing x)
    rw [State.pushFrame, State.setTop_of_frames _ hfb, State.setFrames_setFrames, State.frames_setFrames _ (State.cur_lt_of_frames hfb)]
    exact he
  | returned v =>
    obtain ⟨c₂, i₂, n₂, hc₂, hd₂, hf⟩ := hend
    have hWU : U.WarmedH t.vm := hW2
    have hcc : c₂ = c := by
      have hz : t.code? g.method = some c := by
        rw [State.code?_eq, hWU.alike.method?, ← State.code?_eq]
        exact hat.code
      exact Option.some.inj (hc₂.symm.trans hz)
    subst hcc
    cases hdg.symm.trans hd₂
    rw [hf] at he
    show t = (ez_bk U t).setTop { g with pc := g.pc + 3, stack := v.toList ++ g.stack }
    rw [State.setTop_of_frames _ hfb]
    exact he
end EZ11
end
section
/-! AN EXCEPTION IS CAUGHT, also where a class of the table is looked up for the first time -/
/-- one entry that covers the place: its class is looked up (the tables grow warmer by that), then the object fits or it doesn't -/
theorem ez_go_link {e : Env} {d : Bool} {acts : List Action} {s : State} {f : JFrame} {a : Addr} {Q : Handler → Pre} {E : CtlPost} {x : ExceptionTableEntry} {t : List ExceptionTableEntry} {c : ClassId} {cell : Cell} (hx : covers x f.pc = true) (h0 : x.catchType ≠ 0) (hl : s.vm.ClassLinks e.platform f.method.cls x.catchType c) (hcell : s.heap[a]? = some cell) (hobj : cell.vm.isStatics = false)
    (hk : ∃ k, s.vm.classes[cell.cls]? = some k) (hc : ∃ k, s.vm.classes[c]? = some k) {b : Bool} (hfit : s.vm.assignable cell.cls c = b) :
    wp (findHandler.go f a (x :: t)) Q E e d acts s ↔ (if b = true then Q (.found x.handlerPc) d acts (s.setVm (s.vm.noted f.method.cls x.catchType (.cls c))) else wp (findHandler.go f a t) Q E e d acts (s.setVm (s.vm.noted f.method.cls x.catchType (.cls c)))) := by
  have hal : s.vm.Alike (s.vm.noted f.method.cls x.catchType (.cls c)) := Vm.Alike.noted (Vm.Alike.refl s.vm) _ _ _
  have warm : ∀ i : ClassId, (∃ k, s.vm.classes[i]? = some k) → ∃ k, (s.vm.noted f.method.cls x.catchType (.cls c)).classes[i]? = some k := fun i hi => by
    obtain ⟨k, hk⟩ := hi
    obtain ⟨k', hk', -⟩ := hal.2.2 _ _ hk
    exact ⟨k', hk'⟩
  obtain ⟨k1, hk1⟩ := warm _ hk
  obtain ⟨k2, hk2⟩ := warm _ hc
  have hf := (hal.assignable cell.cls c).trans hfit
  have hst := VmData.ne_statics_of hobj
  obtain ⟨r1, r2⟩ := (resolveClass_links e.toSetting hl).op (op := VmOp.resolveClass f.method.cls x.catchType) rfl
  have hx' : (decide (x.startPc ≤ f.pc) && decide (f.pc < x.endPc)) = true := hx
  cases b <;> simp [findHandler.go, hx', h0, r1, r2, hcell, hst, hk1, hk2, hf, VmOp.dirties, VmOp.acts]
/-- the step from the note 'is thrown' to the handler that the search finds, with the tables that it leaves -/
theorem ez_caught {tb : Tables} {e : Env} {s target : State} {g : JFrame} {c : Code} {below : List Frame} {a : Addr} (h : At s g.method c below) (htail : s.frames.tail = below) {pc : Nat} {vm' : Vm}
    (hfind : ∀ (Q : Handler → Pre) (E : CtlPost) (d : Bool) (acts : List Action), wp (findHandler g a) Q E e d acts ((s.setTop g).pushFrame (.throwing a)) ↔ Q (.found pc) d acts (((s.setTop g).pushFrame (.throwing a)).setVm vm'))
    (hrest : Steps tb e below ((s.setVm vm').setTop { g with pc := pc, stack := [.ref a] }) target) : Steps tb e below ((s.setTop g).pushFrame (.throwing a)) target := by
  obtain ⟨g₀, hg₀⟩ := Option.isSome_iff_exists.mp h.top
  obtain ⟨r, hr⟩ := State.topJava?_eq_some.mp hg₀
  have hrb : r = below := by rw [hr] at htail; exact htail
  subst hrb
  have hS : (s.setTop g).pushFrame (.throwing a) = s.setFrames (.throwing a :: .java g :: r) := by
    rw [State.pushFrame, State.setTop_of_frames _ hr, State.setFrames_setFrames, State.frames_setFrames _ (State.cur_lt_of_frames hr)]
  have hT : (s.setVm vm').setTop { g with pc := pc, stack := [.ref a] } = (((s.setTop g).pushFrame (.throwing a)).setVm vm').setFrames (.java { g with pc := pc, stack := [.ref a] } :: r) := by
    rw [State.setTop_of_frames _ (show (s.setVm vm').frames = .java g₀ :: r from hr), hS]
    have : (s.setFrames (.throwing a :: .java g :: r)).setVm vm' = (s.setVm vm').setFrames (.throwing a :: .java g :: r) := rfl
    rw [this, State.setFrames_setFrames]
  obtain ⟨hgo, hw⟩ := h.throwing a
  refine Steps.head hgo hw ?_
  have hfr : ((s.setTop g).pushFrame (.throwing a)).frames = .throwing a :: .java g :: r := by rw [hS, State.frames_setFrames _ (State.cur_lt_of_frames hr)]
  have hstep : (stepThread tb e ((s.setTop g).pushFrame (.throwing a))).1 = (((s.setTop g).pushFrame (.throwing a)).setVm vm').setFrames (.java { g with pc := pc, stack := [.ref a] } :: r) := by
    rw [stepThread_throwing hfr]
    simp only [stepThrowing, searchFrame, vmDo]
    generalize hq : Sem.go _ e false [] ((s.setTop g).pushFrame (.throwing a)) = res
    obtain ⟨_, rfl, -⟩ := Sem.eq_ok_of hq (a := Handler.found pc) (s' := ((s.setTop g).pushFrame (.throwing a)).setVm vm') (acts' := []) (by simp [hfind])
    rfl
  rw [hstep, ← hT]
  exact hrest
section EZ13
variable {p : Program} {l : Launch} {e : Env} {R : Room} {s : State} {m : MethodId} {args : Array Value} {below : List Frame} {meth : Method} {c : Code} {T : State} {locs : List Loc} {cells slots : Nat}
/-- the search through a table all of whose entries cover the place: those that don't fit are passed -/
theorem ez_search {own : String} (hown : s.vm.findClass own = some m.cls) {a : Addr} {g : JFrame} (hg : g.method = m) {cell : Cell} {cE : ClassId} (hobj : cell.vm.isStatics = false) (hcls : cell.cls = cE) (hkE : ∃ k, s.vm.classes[cE]? = some k) (x : ExceptionTableEntry) (rest : List ExceptionTableEntry) (hx : covers x g.pc = true) (h0 : x.catchType ≠ 0) {name : String} (hlink : (Cond.classLink own x.catchType name).before args s = true) {cT : ClassId} (hcT : s.vm.findClass name = some cT) (hfit : s.vm.assignable cE cT = true) :
    ∀ (pre : List ExceptionTableEntry) (T : State), Stand p l e R s m args below meth c T locs cells slots → T.heap[a]? = some cell → (∀ y ∈ pre, covers y g.pc = true ∧ y.catchType ≠ 0 ∧ ∃ (nm : String) (cN : ClassId), (Cond.classLink own y.catchType nm).before args s = true ∧ s.vm.findClass nm = some cN ∧ s.vm.assignable cE cN = false) →
      ∃ vm' : Vm, Stand p l e R s m args below meth c (T.setVm vm') locs cells slots ∧ ∀ (S : State), S.vm = T.vm → S.heap = T.heap → ∀ (Q : Handler → Pre) (E : CtlPost) (d : Bool) (acts : List Action), wp (findHandler.go g a (pre ++ x :: rest)) Q E e d acts S ↔ Q (.found x.handlerPc) d acts (S.setVm vm') := by
  intro pre
  induction pre with
  | nil =>
    intro T X hcell _
    have hpl : e.platform.magicAccessors = ({} : Platform).magicAccessors := by rw [X.admits.platform]
    obtain ⟨c', hc', hcl⟩ := Cond.classLink_spec hown hlink e.platform hpl
    cases hcT.symm.trans hc'
    obtain ⟨dk, _, _, kt, hd, _, _, _, _, hkt, _, hopen⟩ := hcl.here
    have hcl₀ := X.warmed.classLinks hcl
    have hW' : s.WarmedH (T.vm.noted m.cls x.catchType (.cls cT)) := X.warmed.noted hd hopen (State.rightAt_cls hcl)
    have hal := X.warmed.alike
    obtain ⟨kt', hkt', -⟩ := hal.2.2 _ _ hkt
    obtain ⟨k1, hk1⟩ := hkE
    obtain ⟨k1', hk1', -⟩ := hal.2.2 _ _ hk1
    have hfit' : T.vm.assignable cell.cls cT = true := by rw [hal.assignable, hcls]; exact hfit
    refine ⟨_, X.noted hW', fun S hS1 hS2 Q E d acts => ?_⟩
    subst hg
    have := ez_go_link (e := e) (s := S) (f := g) (a := a) (t := rest) (Q := Q) (E := E) (d := d) (acts := acts) (b := true) hx h0 (by rw [hS1]; exact hcl₀) (by rw [hS2]; exact hcell) hobj (by rw [hS1, hcls]; exact ⟨k1', hk1'⟩) (by rw [hS1]; exact ⟨kt', hkt'⟩) (by rw [hS1]; exact hfit')
    rw [if_pos rfl, hS1] at this
    exact this
  | cons y ys ih =>
    intro T X hcell hpre
    obtain ⟨hy, hy0, nm, cN, hyl, hyc, hyf⟩ := hpre y List.mem_cons_self
    have hpl : e.platform.magicAccessors = ({} : Platform).magicAccessors := by rw [X.admits.platform]
    obtain ⟨c', hc', hcl⟩ := Cond.classLink_spec hown hyl e.platform hpl
    cases hyc.symm.trans hc'
    obtain ⟨dk, _, _, kt, hd, _, _, _, _, hkt, _, hopen⟩ := hcl.here
    have hcl₀ := X.warmed.classLinks hcl
    have hW' : s.WarmedH (T.vm.noted m.cls y.catchType (.cls cN)) := X.warmed.noted hd hopen (State.rightAt_cls hcl)
    have hal := X.warmed.alike
    obtain ⟨kt', hkt', -⟩ := hal.2.2 _ _ hkt
    obtain ⟨k1, hk1⟩ := id hkE
    obtain ⟨k1', hk1', -⟩ := hal.2.2 _ _ hk1
    have hfit' : T.vm.assignable cell.cls cN = false := by rw [hal.assignable, hcls]; exact hyf
    obtain ⟨vm', X', hgo⟩ := ih (T.setVm (T.vm.noted m.cls y.catchType (.cls cN))) (X.noted hW') hcell (fun z hz => hpre z (List.mem_cons_of_mem _ hz))
    refine ⟨vm', X', fun S hS1 hS2 Q E d acts => ?_⟩
    subst hg
    have h1 := ez_go_link (e := e) (s := S) (f := g) (a := a) (t := ys ++ x :: rest) (Q := Q) (E := E) (d := d) (acts := acts) (b := false) hy hy0 (by rw [hS1]; exact hcl₀) (by rw [hS2]; exact hcell) hobj (by rw [hS1, hcls]; exact ⟨k1', hk1'⟩) (by rw [hS1]; exact ⟨kt', hkt'⟩) (by rw [hS1]; exact hfit')
    rw [List.cons_append, h1, if_neg (by decide), hS1]
    exact hgo (S.setVm (T.vm.noted g.method.cls y.catchType (.cls cN))) rfl hS2 Q E d acts
/-- CAUGHT: the run goes on at the handler -/
theorem ez_catch (X : Stand p l e R s m args below meth c T locs cells slots) {own : String} (hown : s.vm.findClass own = some m.cls) {a : Addr} {g : JFrame} (hg : g.method = m) {cell : Cell} {cE : ClassId} (hcell : T.heap[a]? = some cell) (hobj : cell.vm.isStatics = false) (hcls : cell.cls = cE) (hkE : ∃ k, s.vm.classes[cE]? = some k) (pre : List ExceptionTableEntry) (x : ExceptionTableEntry) (rest : List ExceptionTableEntry) (hsplit : c.exceptionTable.toList = pre ++ x :: rest) (hx : covers x g.pc = true) (h0 : x.catchType ≠ 0) {name : String} (hlink : (Cond.classLink own x.catchType name).before args s = true) {cT : ClassId} (hcT : s.vm.findClass name = some cT) (hfit : s.vm.assignable cE cT = true)
    (hpre : ∀ y ∈ pre, covers y g.pc = true ∧ y.catchType ≠ 0 ∧ ∃ (nm : String) (cN : ClassId), (Cond.classLink own y.catchType nm).before args s = true ∧ s.vm.findClass nm = some cN ∧ s.vm.assignable cE cN = false) :
    ∃ vm', Stand p l e R s m args below meth c (T.setVm vm') locs cells slots ∧ ∀ target, Steps p.tables e below ((T.setVm vm').setTop { g with pc := x.handlerPc, stack := [.ref a] }) target → Steps p.tables e below ((T.setTop g).pushFrame (.throwing a)) target := by
  obtain ⟨vm', X', hgo⟩ := ez_search (p := p) (l := l) (e := e) (R := R) (meth := meth) (c := c) (below := below) (locs := locs) (cells := cells) (slots := slots) hown hg hobj hcls hkE x rest hx h0 hlink hcT hfit pre T X hcell hpre
  refine ⟨vm', X', fun target hrest => ?_⟩
  subst hg
  refine ez_caught X.here X.tail (fun Q E d acts => ?_) hrest
  rw [W.findHandler_eq (meth := meth) (code := c) (by rw [Stand.throwing_vm]; exact X.method') X.code, hsplit]
  exact hgo _ (Stand.throwing_vm _ _ _) (Stand.throwing_heap _ _ _) Q E d acts
end EZ13
end
section
/-! THE SAME INVOCATION, SEEN AS IF IT BEGAN HERE: then nothing has been written yet -/
section EZ14
variable {p : Program} {l : Launch} {e : Env} {R : Room} {s : State} {m : MethodId} {args : Array Value} {below : List Frame} {meth : Method} {c : Code} {T : State} {locs : List Loc} {cells slots : Nat}
abbrev ez_re (T : State) (m : MethodId) (args : Array Value) (below : List Frame) : State := T.setFrames (.invoking m args :: below)
theorem ez_rebase (X : Stand p l e R s m args below meth c T locs cells slots) (hc : cells ≤ R.cells) (hs : slots ≤ R.slots) :
    Stand p l e { frames := R.frames, cells := R.cells - cells, slots := R.slots - slots, locals := R.locals } (ez_re T m args below) m args below meth c T [] 0 0 := by
  obtain ⟨g₀, hfr⟩ := X.frames_eq
  have hcur := State.cur_lt_of_frames hfr
  obtain ⟨z, hz, -⟩ := State.frames_cons hfr
  have hf : (ez_re T m args below).frames = .invoking m args :: below := State.frames_setFrames _ hcur
  have hal := X.warmed.alike
  have hm' : (ez_re T m args below).vm.method? m = some meth := X.method'
  have hlim : e.platform.stackLimits (ez_re T m args below).me = e.platform.stackLimits s.me := by
    rw [State.stackLimits_setFrames]
    exact X.limits
  have hby : (ez_re T m args below).me.stackBytes = s.me.stackBytes := by
    rw [State.stackBytes_setFrames]
    exact X.bytes
  have hloc : (ez_re T m args below).localsInUse = s.localsInUse := by
    rw [State.localsInUse_invoking hf hm' X.code, State.localsInUse_invoking X.frames X.method X.code]
  refine ⟨X.admits, X.cas, X.clock, hf, ?_, ?_, hm', X.code, X.here, X.tail, State.WarmedH.refl _, by rw [hlim]; exact X.limits, by rw [hby]; exact X.bytes, ?_⟩
  · have hr := X.room
    have h1 := X.heapSize
    have h2 := X.used
    have h3 : (ez_re T m args below).slotsTrue = true := X.book
    simp only [State.hasRoom, Bool.and_eq_true, decide_eq_true_eq] at hr ⊢
    obtain ⟨⟨⟨⟨r1, r2⟩, r3⟩, r4⟩, -⟩ := hr
    rw [X.frames] at r2
    refine ⟨⟨⟨⟨?_, ?_⟩, ?_⟩, ?_⟩, h3⟩
    · rw [hloc]; exact r1
    · rw [hf, hlim, hloc, hby]; exact r2
    · show T.heap.size + (R.cells - cells) ≤ _
      omega
    · show T.slotsUsed + (R.slots - slots) ≤ _
      omega
  · have hh := X.hears
    cases below with
    | nil =>
      show (((ez_re T m args []).vm.method? m).any _) = true
      have : ((s.vm.method? m).any (·.sig.returnType.isNone)) = true := hh
      rw [hm']
      rw [X.method] at this
      exact this
    | cons f r =>
      have hcode : ∀ mm, (ez_re T m args (f :: r)).code? mm = s.code? mm := fun mm => by
        rw [State.code?_eq, State.code?_eq]
        show (T.vm.method? mm).bind _ = _
        rw [hal.method?]
      unfold State.hears at hh ⊢
      split at hh
      · rw [hcode]
        exact hh
      · rfl
      · rfl
      · rw [hm']
        rw [X.method] at hh
        exact hh
  · have hdrop : T.heap.toList.drop T.heap.size = [] := List.drop_of_length_le (by simp)
    refine ⟨?_, Nat.le_refl _, Nat.le_refl _, ?_, ?_, fun a cc hcc => ⟨cc, hcc, rfl, rfl, fun _ _ => rfl⟩⟩
    · show T = { ((T.setFrames (.invoking m args :: below)).setFrames T.frames) with heap := T.heap, slotsUsed := T.slotsUsed }
      rw [State.setFrames_setFrames, State.setFrames_self hz]
    · show T.slotsUsed = T.slotsUsed + ((T.heap.toList.drop T.heap.size).map (·.slots.size)).sum
      rw [hdrop]
      rfl
    · show ((T.heap.toList.drop T.heap.size).map (·.slots.size)).sum ≤ 0
      rw [hdrop]
      exact Nat.le_refl _
end EZ14
end
section
/-! throw new E("text"): the library's law 'ctorThrowS', used on the invocation rebased just ahead of 'new': so every cell that was there is there as it was -/
noncomputable def ez_up3 : List String := ["java/lang/RuntimeException", "java/lang/Exception"]
/-- what a word of the tables needs to be carried to another state -/
def ez_good (tbl : List Cond) : Prop := ∀ w ∈ tbl, ∀ (args a' : Array Value) (s U : State), s.WarmedH U.vm → w.before args s = true → w.before a' U = true
theorem ez_isRef {args : Array Value} {U : State} {C n d : String} {A : Nat → Prop} (h : va_Zq C n d A U U.heap) : (Cond.isRef (.static C n d)).before args U = true := by
  have key : ∀ v : Value, va_Z C n d v A U U.heap → (Term.static C n d).eval args U none [] U = some v := by
    rintro v ⟨cf, kf, fi, f, a, cell, h1, h2, h3, h4, h5, h6, h7, h8⟩
    simp [Term.eval, State.fieldNamed?, h1, h2, h4, h5, h6, h7]
  rcases h with h | ⟨t, h⟩
  · simp [Cond.before, Cond.holds, Cond.value, key _ h]
  · simp [Cond.before, Cond.holds, Cond.value, key _ h]
/-- a static field lies in a cell outside 'A' -/
def ez_Ls (C n d : String) (A : Nat → Prop) (U : State) (H : Heap) : Prop := ∃ (c : ClassId) (k : Class) (i : Nat) (f : Field) (a : Nat) (cell : Cell), U.vm.findClass C = some c ∧ U.fieldFound? C n d = some (c, k, i, f) ∧ f.isStatic = true ∧ k.statics = some a ∧ H[a]? = some cell ∧ cell.vm.isStatics = true ∧ cell.cls = c ∧ f.slot < cell.slots.size ∧ k.staticTypes[f.slot]? = some f.type ∧ ¬ A a
theorem ez_Ls.there {C n d : String} {A : Nat → Prop} {s U : State} (h : ez_Ls C n d A s s.heap) (hW : s.WarmedH U.vm) (hq : ∀ a : Nat, a < s.heap.size → ¬ A a → U.heap[a]? = s.heap[a]?) : ez_Ls C n d A U U.heap := by
  obtain ⟨c, k, i, f, a, cell, h1, h2, h3, h4, h5, h6, h7, h8, h9, h10⟩ := h
  obtain ⟨k', hi', hek⟩ := State.fieldFound?_setVm hW.alike h2
  exact ⟨c, k', i, f, a, cell, by rw [hW.alike.findClass]; exact h1, hi', h3, by rw [hek]; exact h4, by rw [hq a (Array.getElem?_eq_some_iff.mp h5).1 h10]; exact h5, h6, h7, h8, by rw [hek]; exact h9, h10⟩
theorem ez_Ls.word {args : Array Value} {C n d : String} {A : Nat → Prop} {s : State} (h : ez_Ls C n d A s s.heap) : (Cond.laysStatic C n d).before args s = true := by
  obtain ⟨c, k, i, f, a, cell, h1, h2, h3, h4, h5, h6, h7, h8, h9, h10⟩ := h
  exact Cond.laysStatic_of h1 h2 h3 h4 h5 h6 h7 h8 h9
theorem ez_Ls.of {args : Array Value} {C n d : String} {A : Nat → Prop} {s : State} (h : (Cond.laysStatic C n d).before args s = true) (hA : ∀ a : Nat, a < s.heap.size → ¬ A a) : ez_Ls C n d A s s.heap := by
  obtain ⟨c, k, i, f, a, cell, h1, h2, h3, h4, h5, h6, h7, h8, h9⟩ := Cond.laysStatic_spec h
  exact ⟨c, k, i, f, a, cell, h1, h2, h3, h4, h5, h6, h7, h8, h9, hA a (Array.getElem?_eq_some_iff.mp h5).1⟩
/-- the words on the JDK's statics that a throw reads -/
noncomputable def ez_thw : List Cond := [.isRef (.static Bundle.tN "UNASSIGNED_STACK" Bundle.steD), .isRef (.static Bundle.tN "SUPPRESSED_SENTINEL" Bundle.listD), .laysStatic Bundle.tN "UNASSIGNED_STACK" Bundle.steD, .laysStatic Bundle.tN "SUPPRESSED_SENTINEL" Bundle.listD]
def ez_Th (B : Nat) (s : State) : Prop := va_Zq Bundle.tN "UNASSIGNED_STACK" Bundle.steD (ez_A B) s s.heap ∧ va_Zq Bundle.tN "SUPPRESSED_SENTINEL" Bundle.listD (ez_A B) s s.heap ∧ ez_Ls Bundle.tN "UNASSIGNED_STACK" Bundle.steD (ez_A B) s s.heap ∧ ez_Ls Bundle.tN "SUPPRESSED_SENTINEL" Bundle.listD (ez_A B) s s.heap
theorem ez_Th.there {B : Nat} {s U : State} (h : ez_Th B s) (hW : s.WarmedH U.vm) (hq : ∀ a : Nat, a < s.heap.size → ¬ ez_A B a → U.heap[a]? = s.heap[a]?) : ez_Th B U :=
  ⟨(h.1.kept hq).moved hW.alike, (h.2.1.kept hq).moved hW.alike, h.2.2.1.there hW hq, h.2.2.2.there hW hq⟩
theorem ez_Th.words {B : Nat} {s : State} (h : ez_Th B s) {args : Array Value} : ∀ w ∈ ez_thw, w.before args s = true := by
  intro w hw
  simp only [ez_thw, List.mem_cons, List.not_mem_nil, or_false] at hw
  rcases hw with rfl | rfl | rfl | rfl
  · exact ez_isRef h.1
  · exact ez_isRef h.2.1
  · exact h.2.2.1.word
  · exact h.2.2.2.word
/-- nothing written: each cell that was there is there as it was -/
theorem ez_same_nil {s t : State} {k n : Nat} (h : s.sameButNew t [] k n) {q : Nat} (hq : q < s.heap.size) : t.heap[q]? = s.heap[q]? := by
  obtain ⟨-, -, -, -, -, h6⟩ := h
  have hc : s.heap[q]? = some s.heap[q] := Array.getElem?_eq_getElem hq
  obtain ⟨c', h1, h2, h3, h4⟩ := h6 q _ hc
  rw [h1, hc, h2]
  congr 1
  have : c'.slots = s.heap[q].slots := by
    apply Array.ext_getElem?
    intro i
    exact h4 i (fun z => by cases z)
  rw [this]
section EZ15
variable {p : Program} {l : Launch} {e : Env} {R : Room} {s : State} {m : MethodId} {args : Array Value} {below : List Frame} {meth : Method} {c : Code} {H : Heap} {locs : List Loc} {cells slots : Nat} {cc : ByteArray} {pc B : Nat} {ea : Nat → Nat} {lsM : Array Slot} {own : String} {tbl : List Cond}
variable {D : va_G} {cl : List vw_C} {nf : Nat → Nat} {ty : Nat → Nat → FieldType} {dA : Nat → ClassId} {h : ez_H} {n0 u0 x : Nat} {Q : ez_Q} {exn : Nat → String}
theorem ez_Rel.bump (hR : ez_Rel D cl nf ty dA B h H) {H1 : Heap} (hz : H1.size = H.size + 1) (ho : ∀ q : Nat, q < H.size → H1[q]? = H[q]?) : ez_Rel D cl nf ty dA B (ez_bump h) H1 := by
  obtain ⟨hs, L, hL, hP, hD⟩ := hR
  refine ⟨by rw [hz, hs]; rfl, L, hL, ?_, hD⟩
  exact hP.kept (fun k q hk => ho q.1 ((hP k q hk).lt))
set_option maxHeartbeats 1000000 in
theorem ez_throw (hx : p.tables.exec = Jvm.exec) (hb : c.code = cc) (hlocks : meth.locks = false) (hml : c.maxLocals = lsM.size) (hown : s.vm.findClass own = some m.cls) (hts : ∀ w ∈ tbl, w.before args s = true) (hgd : ez_good tbl) (htr : e.platform.stackTraces = false) (hTh : ez_Th B s) (hout : c.exceptionTable.isEmpty = true)
    (hR : ez_Rel D cl nf ty dA B h H) (hS : va_S (ez_A B) s.heap H locs) (hs0 : s.heap.size = B + 1 + n0) (hn0 : n0 + cells = ez_n h) (hu0 : u0 + slots = ez_u h) (hn1 : ez_n h + 1 ≤ ez_MC) (hu1 : ez_u h + 6 ≤ ez_MS) (hcR : ez_MC ≤ n0 + R.cells) (hsR : ez_MS ≤ u0 + R.slots) (hfr : 6 ≤ R.frames) (hlo : 100 ≤ R.locals)
    {i0 i1 i2 q : Nat} {tx : String} (hfit : Bundle.fit (exn x) = true) (hat : ∀ w ∈ Bundle.ownAtoms own i2 (exn x) ez_up3, w ∈ tbl ∨ w ∈ ez_thw) (hl1 : Cond.classLink own i0 (exn x) ∈ tbl) (hl3 : Cond.initialized (exn x) ∈ tbl) (hstr : vk_R own i1 tx q s)
    (d0 : decode cc pc = .ok (.new i0, 3)) (d1 : decode cc (pc + 3) = .ok (.dup, 1)) (d2 : decode cc (pc + 4) = .ok (.ldc i1, 2)) (d3 : decode cc (pc + 6) = .ok (.invokespecial i2, 3)) (d4 : decode cc (pc + 9) = .ok (.athrow, 1)) (hQ : Q (.inr x) (ez_bump h)) :
    W p l e R s m args below meth c H locs cells slots (ez_Fin D cl nf ty dA B ea exn below s n0 u0 Q) (F0 m pc lsM []) := by
  intro T hT X
  have hc0 : cells ≤ R.cells := by omega
  have hsl0 : slots ≤ R.slots := by omega
  have X' := ez_rebase X hc0 hsl0
  generalize hs' : ez_re T m args below = s' at X'
  have hvm : s'.vm = T.vm := by rw [← hs']; rfl
  have hheap : s'.heap = T.heap := by rw [← hs']; rfl
  have hW0 : s.WarmedH s'.vm := by rw [hvm]; exact X.warmed
  have hts' : ∀ w ∈ tbl, w.before args s' = true := fun w hw => hgd w hw _ _ _ _ hW0 (hts w hw)
  have hown' : s'.vm.findClass own = some m.cls := by rw [hW0.alike.findClass]; exact hown
  have hq : ∀ a : Nat, a < s.heap.size → ¬ ez_A B a → s'.heap[a]? = s.heap[a]? := fun a h1 h2 => by rw [hheap, hT]; exact hS.2.1 a h1 h2
  have hat' : ∀ w ∈ Bundle.ownAtoms own i2 (exn x) ez_up3, w.before args s' = true := fun w hw => by
    rcases hat w hw with z | z
    · exact hts' w z
    · exact (hTh.there hW0 hq).words w z
  have hstr' : vk_R own i1 tx q s' := hstr.warm hW0
  have hin : (Cond.instantiable (exn x) 6).before args s' = true := hat' _ (by simp [Bundle.ownAtoms])
  obtain ⟨cX, kX, hfX, hkX, -⟩ := Cond.instantiable_spec hin
  have K : W p l e { frames := R.frames, cells := R.cells - cells, slots := R.slots - slots, locals := R.locals } s' m args below meth c T.heap [] 0 0 (fun t => ∃ ce, t.status = .running ∧ Ended t below (.threw T.heap.size) ∧ s'.WarmedH t.vm ∧ s'.sameButNew ({ t with vm := s'.vm } : State) [] 1 6 ∧ t.heap[T.heap.size]? = some ce ∧ Bundle.OwnCell args s' (exn x) T.heap.size (.ref q) ce) (F0 m pc lsM []) := by
    refine W.newcK hx hb hown' (hts' _ hl1) hin (hts' _ hl3) rfl d0 (by show 0 + 1 ≤ R.cells - cells; omega) (by show 0 + 6 ≤ R.slots - slots; omega) hfX rfl fun H1 kC hkC e1 z1 o1 => ?_
    cases Option.some.inj (hkX.symm.trans hkC)
    refine lv_dup hx hb d1 rfl ?_
    refine va_ldcS hx hb hown' hstr' d2 ?_
    intro T2 hT2 X2
    obtain ⟨U, k1, k2, k3, k4, k5, ce, k6, k7⟩ := X2.ctorThrowS hx htr hown' hfit (by decide +kernel) hat' (fun _ hh => by cases hh) hfX hkX (a := T.heap.size) (by rw [hT2]; exact e1) (by rw [hheap]; exact Nat.le_refl _) (msg := .ref q) rfl (g := F0 m (pc + 6) lsM [.ref q, .ref T.heap.size, .ref T.heap.size]) rfl hml.symm rfl rfl (rest := []) rfl
      (by rw [hb]; exact d3) (by rw [hb]; exact d4) (covers_of_empty hout _) (by show ez_up3.length + 3 < R.frames; show 2 + 3 < R.frames; omega) (by show 2 * 0 + 1 + (13 * (2 + 1) + 42) ≤ R.locals; omega) (hlocks := hlocks)
    exact ⟨U, k1, ce, k2, k3, k4, k5, k6, k7⟩
  obtain ⟨t, a1, ce, k2, k3, k4, k5, k6, k7⟩ := K T rfl X'
  have hlt := (Array.getElem?_eq_some_iff.mp k6).1
  have hle : t.heap.size ≤ s'.heap.size + 1 := k5.2.2.1
  rw [hheap] at hle
  have hz : t.heap.size = H.size + 1 := by rw [← hT]; omega
  have hold : ∀ a : Nat, a < H.size → t.heap[a]? = H[a]? := fun a ha => by
    have h1 : a < s'.heap.size := by rw [hheap, hT]; exact ha
    have h2 : ({ t with vm := s'.vm } : State).heap[a]? = s'.heap[a]? := ez_same_nil k5 h1
    rw [← hT, ← hheap]
    exact h2
  have hWt : s.WarmedH t.vm := State.WarmedH.trans hW0 k4
  obtain ⟨g₀, hfrT⟩ := X.frames_eq
  have hT5 : T.sameButNew ({ t with vm := T.vm } : State) [] 1 6 := by
    have h1 := k5
    rw [← hs'] at h1
    refine ⟨?_, h1.2⟩
    have h2 := h1.1
    show ({ t with vm := T.vm } : State) = { T.setFrames t.frames with heap := t.heap, slotsUsed := t.slotsUsed }
    have h3 : (ez_re T m args below).setFrames t.frames = T.setFrames t.frames := State.setFrames_setFrames _ _ _
    rw [← h3]
    exact h2
  have hfin := X.same.trans (hT5.setVm s.vm)
  rw [List.append_nil] at hfin
  refine ⟨t, a1, .threw T.heap.size, k2, k3, .inr x, ez_bump h, hQ, ⟨T.heap.size, ce, rfl, k6, by rw [k7.vm]; rfl, ?_⟩, hR.bump hz hold, hWt, ⟨by show n0 ≤ ez_n h + 1; omega, by show u0 ≤ ez_u h + 6; omega, hn1, hu1⟩, fun a g1 g2 => ?_, ?_, locs, ?_, hS.2.2⟩
  · rw [← hW0.alike.findClass]
    exact k7.cls
  · rw [hold a (Nat.lt_of_lt_of_le g1 hS.1)]
    exact hS.2.1 a g1 g2
  · have := hS.1
    omega
  · rw [show ez_n (ez_bump h) - n0 = cells + 1 by show ez_n h + 1 - n0 = _; omega, show ez_u (ez_bump h) - u0 = slots + 6 by show ez_u h + 6 - u0 = _; omega]
    exact hfin
end EZ15
end
section
/-! A METHOD'S CONTRACT OUT OF ITS WALK -/
/-- the code word of a method: without handlers, or with them -/
noncomputable def ez_wc (y : MethodName) (bytes : ByteArray) (n : Nat) (ret : Option FieldType) (hh : List (Nat × Nat × Nat × Nat)) : Cond := match hh with
  | [] => .code y bytes n ret
  | q :: r => .codeWith y bytes n ret (q :: r)
theorem ez_wc_spec {y : MethodName} {bytes : ByteArray} {n : Nat} {ret : Option FieldType} {hh : List (Nat × Nat × Nat × Nat)} {args : Array Value} {U : State} (h : (ez_wc y bytes n ret hh).before args U = true) :
    ∃ (mk : MethodId) (meth : Method) (c : Code), U.methodNamed? y = some mk ∧ U.vm.method? mk = some meth ∧ meth.code = some c ∧ c.code = bytes ∧ c.maxLocals = n ∧ c.exceptionTable.toList.map (fun h => (h.startPc, h.endPc, h.handlerPc, h.catchType)) = hh ∧ meth.sig.returnType = ret ∧ meth.locks = false ∧ parseMethodDescriptor y.desc = some meth.sig := by
  cases hh with
  | nil =>
    obtain ⟨mk, hn⟩ := Cond.code_named h
    obtain ⟨meth, c, h1, h2, h3, h4, h5, h6, h7, h8⟩ := Cond.code_spec hn h
    refine ⟨mk, meth, c, hn, h1, h2, h3, h4, ?_, h5, h6, h8⟩
    have : c.exceptionTable.toList = [] := by simpa [Array.isEmpty] using h7
    rw [this]
    rfl
  | cons q r => exact Cond.codeWith_spec h
theorem ez_lay_len (B : Nat) (ea : Nat → Nat) : ∀ vs : List Value, (lg_sl (vs.map (ez_tr B ea))).length = (ez_lay vs).length
  | [] => rfl
  | v :: r => by
    have ih := ez_lay_len B ea r
    unfold lg_sl at ih ⊢
    rw [List.map_cons, List.flatMap_cons, List.length_append, ih]
    cases v <;> simp [ez_lay, ez_tr, Value.category] <;> omega
theorem ez_lay_mem (B : Nat) (ea : Nat → Nat) : ∀ (vs : List Value) (i j : Nat) (v : Value), (ez_lay vs)[j]? = some (some v) → (i + j, ez_tr B ea v) ∈ lv_args i (vs.map (ez_tr B ea))
  | [], i, j, v, h => by cases h
  | w :: r, i, j, v, h => by
    have two : w.category = 2 → ez_lay (w :: r) = some w :: none :: ez_lay r := by
      cases w <;> intro h <;> first | rfl | cases h
    have one : ¬ w.category = 2 → ez_lay (w :: r) = some w :: ez_lay r := by
      cases w <;> intro h <;> first | rfl | exact absurd rfl h
    rw [List.map_cons]
    show _ ∈ (i, ez_tr B ea w) :: lv_args (if (ez_tr B ea w).category = 2 then i + 2 else i + 1) (r.map (ez_tr B ea))
    rw [ez_tr_cat]
    by_cases hw : w.category = 2
    · rw [two hw] at h
      rw [if_pos hw]
      match j, h with
      | 0, h => cases h; exact List.mem_cons_self
      | 1, h => cases h
      | j + 2, h =>
        have := ez_lay_mem B ea r (i + 2) j v h
        rw [show i + 2 + j = i + (j + 2) by omega] at this
        exact List.mem_cons_of_mem _ this
    · rw [one hw] at h
      rw [if_neg hw]
      match j, h with
      | 0, h => cases h; exact List.mem_cons_self
      | j + 1, h =>
        have := ez_lay_mem B ea r (i + 1) j v h
        rw [show i + 1 + j = i + (j + 1) by omega] at this
        exact List.mem_cons_of_mem _ this
/-- at a method's entry -/
theorem ez_lv_entry {B : Nat} {ea : Nat → Nat} {vs : List Value} {n : Nat} (hn : (ez_lay vs).length ≤ n) : lv_has ((lg_sl (vs.map (ez_tr B ea)) ++ List.replicate (n - (lg_sl (vs.map (ez_tr B ea))).length) Slot.unset).toArray) n (ez_lv B ea (ez_args n vs)) := by
  refine ez_lv_sub (lv_entry (vs.map (ez_tr B ea)) (n := n) (by rw [ez_lay_len]; exact hn)) fun q hq => ?_
  obtain ⟨v, h1, h2⟩ := ez_lv_mem.mp hq
  unfold ez_args at h1
  rw [List.getD_eq_getElem?_getD] at h1
  by_cases hl : q.1 < (ez_lay vs).length
  · rw [List.getElem?_append_left hl] at h1
    cases hq1 : (ez_lay vs)[q.1]? with
    | none => rw [hq1] at h1; cases h1
    | some o =>
      rw [hq1] at h1
      have : o = some v := h1
      subst this
      have := ez_lay_mem B ea vs 0 q.1 v hq1
      rw [Nat.zero_add, ← h2] at this
      exact this
  · rw [List.getElem?_append_right (by omega)] at h1
    by_cases hr : q.1 - (ez_lay vs).length < n - (ez_lay vs).length
    · rw [List.getElem?_replicate, if_pos hr] at h1
      cases h1
    · rw [List.getElem?_replicate, if_neg hr] at h1
      cases h1
section EZS
variable (l : Launch) (D : va_G) (cl : List vw_C) (nf : Nat → Nat) (ty : Nat → Nat → FieldType) (dA : Nat → ClassId) (B : Nat) (ea : Nat → Nat) (exn : Nat → String) (E : Nat → Nat × (Nat → Int32)) (sta : Nat → String × String × String) (nm : Nat → MethodName) (bytes : Nat → ByteArray) (ml : Nat → Nat) (ret : Nat → Option FieldType) (hh : Nat → List (Nat × Nat × Nat × Nat)) (tbl : List Cond) (strs : List (String × Nat × String))
/-- what stands around: the classes, the arrays outside, what a throw reads -/
def ez_Sur (s : State) : Prop :=
  va_K D cl (ez_tys dA) s ∧ (∀ j, va_T .int (ea j) (E j).1 (fun i => .int ((E j).2 i)) (ez_A B) s s.heap) ∧ (∀ j, 0 < j → va_Z (sta j).1 (sta j).2.1 (sta j).2.2 (.ref (ea j)) (ez_A B) s s.heap) ∧ ez_Th B s ∧ ∀ w ∈ strs, ∃ q : Nat, vk_R w.1 w.2.1 w.2.2 q s
/-- the method that runs -/
def ez_Ctx (mi : Nat) (p : Program) (s : State) (m : MethodId) (args : Array Value) (meth : Method) (c : Code) : Prop :=
  p.tables.exec = Jvm.exec ∧ c.code = bytes mi ∧ meth.sig.returnType = ret mi ∧ c.maxLocals = ml mi ∧ s.vm.findClass (nm mi).cls = some m.cls ∧ (∀ w ∈ tbl, w.before args s = true) ∧ meth.locks = false ∧ meth.name = (nm mi).name ∧ c.exceptionTable.toList.map (fun h => (h.startPc, h.endPc, h.handlerPc, h.catchType)) = hh mi
/-- THE MACHINE DOES WHAT THE PURE ONE MUST -/
noncomputable def ez_Snd : ez_X := fun d mi pc ls st h Q => ∀ (p : Program) (e : Env) (R : Room) (s : State) (m : MethodId) (args : Array Value) (below : List Frame) (meth : Method) (c : Code) (H : Heap) (locs : List Loc) (cells slots : Nat) (lsM : Array Slot) (n0 u0 : Nat),
  ez_Ctx nm bytes ml ret hh tbl mi p s m args meth c → ez_Sur D cl dA B ea E sta strs s → ez_Rel D cl nf ty dA B h H → va_S (ez_A B) s.heap H locs → s.heap.size = B + 1 + n0 → n0 + cells = ez_n h → u0 + slots = ez_u h → ez_n h ≤ ez_MC → ez_u h ≤ ez_MS → ez_MC ≤ n0 + R.cells → ez_MS ≤ u0 + R.slots → d + 6 ≤ R.frames → 40 * d + 100 ≤ R.locals → lv_has lsM (ml mi) (ez_lv B ea ls) →
  W p l e R s m args below meth c H locs cells slots (ez_Fin D cl nf ty dA B ea exn below s n0 u0 Q) (F0 m pc lsM (st.map (ez_tr B ea)))
theorem ez_Snd_mono : ez_Mono (ez_Snd l D cl nf ty dA B ea exn E sta nm bytes ml ret hh tbl strs) := by
  intro d mi pc ls st h Q Q' hQ H p e R s m args below meth c H0 locs cells slots lsM n0 u0 a1 a2 a3 a4 a5 a6 a7 a8 a9 a10 a11 a12 a13 a14
  refine ez_W_mono ?_ (H p e R s m args below meth c H0 locs cells slots lsM n0 u0 a1 a2 a3 a4 a5 a6 a7 a8 a9 a10 a11 a12 a13 a14)
  rintro t ⟨o, h1, h2, r, h', h3, h4⟩
  exact ⟨o, h1, h2, r, h', hQ r h' h3, h4⟩
/-- what stands around stays, where nothing outside is written and the tables grow warmer -/
theorem ez_Sur.there {s U : State} (h : ez_Sur D cl dA B ea E sta strs s) (hW : s.WarmedH U.vm) (hq : ∀ a : Nat, a < s.heap.size → ¬ ez_A B a → U.heap[a]? = s.heap[a]?) : ez_Sur D cl dA B ea E sta strs U := by
  obtain ⟨h1, h2, h3, h4, h5⟩ := h
  exact ⟨va_K.moved hW.alike h1, fun j => ((h2 j).kept hq).moved hW.alike, fun j hj => ((h3 j hj).kept hq).moved hW.alike, h4.there hW hq, fun w hw => by
    obtain ⟨q, hq⟩ := h5 w hw
    exact ⟨q, hq.warm hW⟩⟩
set_option maxHeartbeats 1000000 in
theorem ez_met {d a : Nat} {vs : List Value} {h : ez_H} {Q : ez_Q} (hpl : plainName (nm a).cls = true) (hfit : (ez_lay vs).length ≤ ml a) (hn1 : ez_n h ≤ ez_MC) (hu1 : ez_u h ≤ ez_MS) (H : ez_Snd l D cl nf ty dA B ea exn E sta nm bytes ml ret hh tbl strs d a 0 (ez_args (ml a) vs) [] h Q) :
    MetFree l (nm a) (headSpec (ez_wc (nm a) (bytes a) (ml a) (ret a) (hh a) :: tbl) { frames := d + 6, cells := ez_MC - ez_n h, slots := ez_MS - ez_u h, locals := 40 * d + 100 }) (fun args s => args = (vs.map (ez_tr B ea)).toArray ∧ ez_Rel D cl nf ty dA B h s.heap ∧ ez_Sur D cl dA B ea E sta strs s) (fun _ _ _ _ _ => True) (fun _ s o t => ez_End D cl nf ty dA B ea exn s (ez_n h) (ez_u h) Q o t) := by
  refine MetFree.of_bodyS (code := bytes a) (maxLocals := ml a) (ret := ret a) hpl ?_ ?_
  · intro args s m hp hn
    obtain ⟨mk, meth, c, g1, g2, g3, g4, g5, -, g6, g7, -⟩ := ez_wc_spec (atoms_spec (ws := _ :: tbl) hp _ List.mem_cons_self)
    cases hn.symm.trans g1
    exact ⟨meth, c, g2, g3, g4, g5, g6, g7⟩
  · intro p e s m args below meth c s₁ Bd hml hP _
    obtain ⟨rfl, hR, hSur⟩ := hP
    have hts := atoms_spec (ws := ez_wc (nm a) (bytes a) (ml a) (ret a) (hh a) :: tbl) Bd.pre
    obtain ⟨mk, methK, cK, g1, g2, g3, g4, g5, g6, g7, g8, -⟩ := ez_wc_spec (hts _ List.mem_cons_self)
    cases Bd.named.symm.trans g1
    cases Bd.method.symm.trans g2
    have X₀ := Stand.of_body Bd
    cases X₀.code.symm.trans g3
    have hh0 : s₁.heap = s.heap := by rw [Bd.state]; rfl
    have K := H p e (headSpec (ez_wc (nm a) (bytes a) (ml a) (ret a) (hh a) :: tbl) { frames := d + 6, cells := ez_MC - ez_n h, slots := ez_MS - ez_u h, locals := 40 * d + 100 }).room s m (vs.map (ez_tr B ea)).toArray below meth c s.heap [] 0 0 _ (ez_n h) (ez_u h)
      ⟨Bd.exec, g4, g7, g5, findClass_of_methodNamed Bd.named, fun w hw => hts w (List.mem_cons_of_mem _ hw), g8, (name_of_methodNamed Bd.named Bd.method).1, g6⟩ hSur hR va_S.rf hR.1 rfl rfl hn1 hu1 (by show ez_MC ≤ ez_n h + (ez_MC - ez_n h); omega) (by show ez_MS ≤ ez_u h + (ez_MS - ez_u h); omega) (Nat.le_refl _) (Nat.le_refl _) (ez_lv_entry hfit)
    obtain ⟨t, a1, o, b1, b2, b3⟩ := K s₁ hh0 X₀
    refine ⟨t, o, ?_, b1, b2, b3⟩
    rw [lg_entry_eq]
    exact a1
end EZS
end
section
/-- what links a call of y (its tag k: the receiver's class; b: how many arguments, the receiver among them) -/
def ez_ck (own : String) (y : MethodName) (wc : Cond) (n : Nat) (noH : Prop) (ret : Option FieldType) (tbl : List Cond) (cl : List vw_C) (i : ClassFile.Instr) (b k : Nat) : Prop :=
  plainName y.cls = true ∧ (y.cls ≠ "java/lang/invoke/MethodHandle" ∧ y.cls ≠ "java/lang/invoke/VarHandle") ∧ Cond.initialized y.cls ∈ tbl ∧ wc ∈ tbl ∧ n ≤ 21 ∧ match i with
  | .invokevirtual idx => Cond.methodLink own idx y ∈ tbl ∧ Cond.instanceMethod y ∈ tbl ∧ Cond.selects y.cls y y ∈ tbl ∧ (0 < k ∧ k < 1000) ∧ (∃ (T : u_T) (N : Nat), cl[k - 1]? = some (y.cls, T, N)) ∧ (parseMethodDescriptor y.desc).map (fun d => d.parameters.length + 1) = some b
  | .invokespecial idx => (Cond.methodLink own idx y ∈ tbl ∨ ∃ host, Cond.methodLinkNest own idx y host ∈ tbl) ∧ y.name = "<init>" ∧ Cond.instanceMethod y ∈ tbl ∧ noH ∧ ret = none ∧ 0 < k ∧ (parseMethodDescriptor y.desc).map (fun d => d.parameters.length + 1) = some b
  | .invokestatic idx => (Cond.methodLink own idx y ∈ tbl ∨ ∃ host, Cond.methodLinkNest own idx y host ∈ tbl) ∧ Cond.static y ∈ tbl ∧ k = 0 ∧ (parseMethodDescriptor y.desc).map (fun d => d.parameters.length) = some b
  | _ => False
theorem ez_st_split {B : Nat} {ea : Nat → Nat} {st : List Value} {b : Nat} : st.map (ez_tr B ea) = ((st.take b).reverse.map (ez_tr B ea)).reverse ++ (st.drop b).map (ez_tr B ea) := by
  rw [← List.map_reverse, List.reverse_reverse, ← List.map_append, List.take_append_drop]
theorem ez_parms {y : MethodName} {f : MethodDescriptor → Nat} {b : Nat} (h : (parseMethodDescriptor y.desc).map f = some b) (sig : MethodDescriptor) (hs : parseMethodDescriptor y.desc = some sig) : f sig = b := by
  rw [hs] at h
  exact Option.some.inj h
section EZ16
variable {p : Program} {l : Launch} {e : Env} {R : Room} {s : State} {m : MethodId} {args : Array Value} {below : List Frame} {meth : Method} {c : Code} {T : State} {locs : List Loc} {cells slots : Nat} {cc : ByteArray} {pc B : Nat} {ea : Nat → Nat} {lsM : Array Slot} {own : String} {tbl : List Cond} {st : List Value}
variable {D : va_G} {cl : List vw_C} {nf : Nat → Nat} {ty : Nat → Nat → FieldType} {dA : Nat → ClassId} {h : ez_H} {y : MethodName} {bytes : ByteArray} {n b k : Nat} {ret : Option FieldType} {hh : List (Nat × Nat × Nat × Nat)} {i : ClassFile.Instr}
set_option maxHeartbeats 1000000 in
theorem ez_invoke (X : Stand p l e R s m args below meth c T locs cells slots) (hx : p.tables.exec = Jvm.exec) (hb : c.code = cc) (hown : s.vm.findClass own = some m.cls) (hts : ∀ w ∈ tbl, w.before args s = true) (hK : va_K D cl (ez_tys dA) s) (hR : ez_Rel D cl nf ty dA B h T.heap) (hck : ez_ck own y (ez_wc y bytes n ret hh) n (hh = []) ret tbl cl i b k) (hlen : (st.take b).reverse.length = b) (hrc : ez_rcv h k (st.take b).reverse) (hd : decode cc pc = .ok (i, 3)) :
    ∃ (mk : MethodId) (vm₁ : Vm), s.methodNamed? y = some mk ∧ Stand p l e R s m args below meth c (T.setVm vm₁) locs cells slots ∧ ∀ target, Steps p.tables e below (doInvoke e ((T.setVm vm₁).setTop (F0 m pc lsM ((st.drop b).map (ez_tr B ea)))) [] mk ((st.take b).reverse.map (ez_tr B ea)).toArray).1 target → Steps p.tables e below (T.setTop (F0 m pc lsM (st.map (ez_tr B ea)))) target := by
  obtain ⟨-, hy, hini, hwc, -, hck⟩ := hck
  obtain ⟨mk, methM, cM, hnamed, hmethM, hcM, -, -, -, -, -, hsigM⟩ := ez_wc_spec (hts _ hwc)
  have hsplit := ez_st_split (B := B) (ea := ea) (st := st) (b := b)
  have hd' : decode c.code pc = .ok (i, 3) := by rw [hb]; exact hd
  generalize hvs : (st.take b).reverse = vs at hlen hrc hsplit ⊢
  split at hck
  · rename_i idx
    obtain ⟨hl, hin, hse, ⟨hk0, hk1⟩, ⟨TT, N, hcl⟩, hpar⟩ := hck
    obtain ⟨k', rfl⟩ : ∃ k', k = k' + 1 := ⟨k - 1, by omega⟩
    have hrc' : ∃ q ps, vs = .ref q :: ps ∧ ez_t h q = k' + 1 := by
      unfold ez_rcv at hrc
      simp only at hrc
      split at hrc
      · exact ⟨_, _, rfl, hrc⟩
      · exact hrc.elim
    obtain ⟨q, ps, rfl, hq⟩ := hrc'
    obtain ⟨ws, j, hP, -, hj, -⟩ := hR.get (p := q) (by omega)
    rw [ez_ce_obj hq hk1] at hj
    obtain ⟨cellB, hcB, hoB, hclB⟩ := va_recv hK hP hcl hj
    obtain ⟨mk2, methM2, hnamed2, hmethM2, hstM, habM⟩ := Cond.instanceMethod_spec (hts _ hin)
    cases hnamed.symm.trans hnamed2
    cases hmethM.symm.trans hmethM2
    obtain ⟨c2, r2, m2, q1, q2, q3, q4, kP, hkP, hkPi⟩ := Cond.selects_spec (hts _ hse)
    cases hclB.symm.trans q1
    cases (State.methodFound?_of_named hnamed hy).symm.trans q2
    cases hnamed.symm.trans q3
    have hselP : selectMethod e.platform s.vm cellB.cls mk = .method mk := by rw [Launch.admits_selectMethod X.admits]; exact q4
    have hpl := ez_parms hpar _ hsigM
    obtain ⟨vm₁, X₁, hst⟩ := X.invokevirtual hx hown (hts _ hl) hnamed hmethM hstM hkP hkPi hy (a := B + q) (cell := cellB) hcB (fun z hz => by rw [hz] at hoB; cases hoB) hselP hmethM habM hkP hkPi (g := F0 m pc lsM (st.map (ez_tr B ea))) rfl (argsL := ps.map (ez_tr B ea)) (rest := (st.drop b).map (ez_tr B ea))
      (by rw [List.length_map]; simp at hlen; omega) (by rw [hsplit]; simp [ez_tr]) hd'
    exact ⟨mk, vm₁, hnamed, X₁, fun target ht => hst _ fun acts => by rw [doInvoke_state]; exact ht⟩
  · rename_i idx
    obtain ⟨hl, hy1, hin, hnoH, hret, hk0, hpar⟩ := hck
    obtain ⟨k', rfl⟩ : ∃ k', k = k' + 1 := ⟨k - 1, by omega⟩
    have hrc' : ∃ q ps, vs = .ref q :: ps := by
      unfold ez_rcv at hrc
      simp only at hrc
      split at hrc
      · exact ⟨_, _, rfl⟩
      · exact hrc.elim
    obtain ⟨q, ps, rfl⟩ := hrc'
    subst hnoH
    subst hret
    have hpM : e.platform.magicAccessors = ({} : Platform).magicAccessors := by rw [X.admits.platform]
    have hlenP : ∀ sig, parseMethodDescriptor y.desc = some sig → (ps.map (ez_tr B ea)).length = sig.parameters.length := fun sig hs => by
      have := ez_parms hpar _ hs
      rw [List.length_map]
      simp at hlen
      omega
    rcases hl with hl | ⟨host, hl⟩
    · obtain ⟨mk2, methM2, cM2, kP, vm₁, hnamed2, -, -, -, -, -, -, -, hW₁, hst⟩ := Steps.initColdArgs (e := e) X.here hx X.warmed hpM hown hy1 hy (hts _ hl) (hts _ hin) (hts _ hwc) (f := F0 m pc lsM (st.map (ez_tr B ea))) rfl hlenP (rest := (st.drop b).map (ez_tr B ea)) (a := B + q) (by rw [hsplit]; simp [ez_tr]) hd'
      cases hnamed.symm.trans hnamed2
      exact ⟨mk, vm₁, hnamed, X.noted hW₁, fun target ht => hst _ fun acts => by rw [doInvoke_state]; exact ht⟩
    · obtain ⟨mk2, methM2, cM2, kP, vm₁, hnamed2, -, -, -, -, -, -, -, hW₁, hst⟩ := Steps.initColdArgsNest (e := e) X.here hx X.warmed hpM hown hy1 hy (hts _ hl) (hts _ hin) (hts _ hwc) (f := F0 m pc lsM (st.map (ez_tr B ea))) rfl hlenP (rest := (st.drop b).map (ez_tr B ea)) (a := B + q) (by rw [hsplit]; simp [ez_tr]) hd'
      cases hnamed.symm.trans hnamed2
      exact ⟨mk, vm₁, hnamed, X.noted hW₁, fun target ht => hst _ fun acts => by rw [doInvoke_state]; exact ht⟩
  · rename_i idx
    obtain ⟨hl, hsta, rfl, hpar⟩ := hck
    have hstatic : methM.isStatic = true := Cond.static_spec hnamed hmethM (hts _ hsta)
    obtain ⟨kP, hkP, -⟩ := className_of_methodNamed hnamed
    have hinitP : kP.init = .initialized := Cond.initialized_spec (findClass_of_methodNamed hnamed) hkP (hts _ hini)
    have hpl := ez_parms hpar _ hsigM
    rcases hl with hl | ⟨host, hl⟩
    · obtain ⟨vm₁, X₁, hst⟩ := X.invokestatic hx hown (hts _ hl) hnamed hmethM hstatic hkP hinitP hy (g := F0 m pc lsM (st.map (ez_tr B ea))) rfl (argsL := vs.map (ez_tr B ea)) (rest := (st.drop b).map (ez_tr B ea)) (by rw [List.length_map]; omega) (by rw [hsplit]) hd'
      exact ⟨mk, vm₁, hnamed, X₁, fun target ht => hst _ fun acts => by rw [doInvoke_state]; exact ht⟩
    · obtain ⟨vm₁, X₁, hst⟩ := X.invokestaticNest hx hown (hts _ hl) hnamed hmethM hstatic hkP hinitP hy (g := F0 m pc lsM (st.map (ez_tr B ea))) rfl (argsL := vs.map (ez_tr B ea)) (rest := (st.drop b).map (ez_tr B ea)) (by rw [List.length_map]; omega) (by rw [hsplit]) hd'
      exact ⟨mk, vm₁, hnamed, X₁, fun target ht => hst _ fun acts => by rw [doInvoke_state]; exact ht⟩
  · exact hck.elim
end EZ16
end
section
/-! ALL TOGETHER: what the pure machine must do, the machine does -/
noncomputable def ez_isSw (i : ClassFile.Instr) : Bool := match i with
  | .tableswitch _ _ _ _ => true
  | .lookupswitch _ _ => true
  | _ => false
noncomputable def ez_isThr (i : ClassFile.Instr) : Bool := match i with
  | .athrow => true
  | _ => false
section EZC
variable (l : Launch) (D : va_G) (cl : List vw_C) (nf : Nat → Nat) (ty : Nat → Nat → FieldType) (dA : Nat → ClassId) (B : Nat) (ea : Nat → Nat) (exn : Nat → String) (E : Nat → Nat × (Nat → Int32)) (sta : Nat → String × String × String) (nm : Nat → MethodName) (bytes : Nat → ByteArray) (ml : Nat → Nat) (ret : Nat → Option FieldType) (hh : Nat → List (Nat × Nat × Nat × Nat)) (tbl : List Cond) (strs : List (String × Nat × String)) (hn : Nat → Nat → Nat → Option (Nat × Nat)) (code : Nat → List ez_C)
/-- a throw: its five instructions, and what links them -/
def ez_tk (mi pc x : Nat) : Prop := ∃ (i0 i1 i2 : Nat) (tx : String), decode (bytes mi) pc = .ok (.new i0, 3) ∧ decode (bytes mi) (pc + 3) = .ok (.dup, 1) ∧ decode (bytes mi) (pc + 4) = .ok (.ldc i1, 2) ∧ decode (bytes mi) (pc + 6) = .ok (.invokespecial i2, 3) ∧ decode (bytes mi) (pc + 9) = .ok (.athrow, 1) ∧ ((nm mi).cls, i1, tx) ∈ strs ∧ Bundle.fit (exn x) = true ∧
  (∀ w ∈ Bundle.ownAtoms (nm mi).cls i2 (exn x) ez_up3, w ∈ tbl ∨ w ∈ ez_thw) ∧ Cond.classLink (nm mi).cls i0 (exn x) ∈ tbl ∧ Cond.initialized (exn x) ∈ tbl ∧ hh mi = []
/-- an entry of the tables is what the code has there -/
def ez_ok1 (mi : Nat) (q : ez_C) : Prop := match q with
  | (pc, i, a, b, k, v) => (ez_isThr i = true → ez_tk exn nm bytes hh tbl strs mi pc a) ∧ (ez_isThr i = false → ∃ len, decode (bytes mi) pc = .ok (i, len) ∧ (ez_isSw i = false → len = ez_ln i)) ∧ ez_cst (nm mi).cls tbl (ml mi) i v ∧ (∀ cn off, i = .ifCond cn off ∨ i = .if_icmp cn off → (pc : Int) + off = (a : Int)) ∧ ez_jk i pc a ∧ ez_lk (nm mi).cls tbl cl nf ty sta ((nm mi).name = "<init>") i a b k ∧
    ((i = .ireturn → ret mi = if a = 0 then some .int else some .boolean) ∧ (i = .lreturn → ret mi = some .long) ∧ (i = .return_ → ret mi = none)) ∧ (ez_cl i k = true → ez_ck (nm mi).cls (nm a) (ez_wc (nm a) (bytes a) (ml a) (ret a) (hh a)) (ml a) (hh a = []) (ret a) tbl cl i b k)
def ez_okL (mi : Nat) : List ez_C → Prop
  | [] => True
  | q :: cs => ez_ok1 cl nf ty exn sta nm bytes ml ret hh tbl strs mi q ∧ (∀ q' cs', cs = q' :: cs' → ez_isSw q.2.1 = false → ez_isThr q.2.1 = false → q'.1 = q.1 + ez_ln q.2.1) ∧ ez_okL mi cs
/-- where exceptions are caught -/
def ez_okH (mi : Nat) : Prop := ∀ pc x, (hn mi pc x = none → hh mi = []) ∧ ∀ t j, hn mi pc x = some (t + 1, j) → ∃ (pre : List (Nat × Nat × Nat × Nat)) (sE eE hp ct : Nat) (rest : List (Nat × Nat × Nat × Nat)), hh mi = pre ++ (sE, eE, hp, ct) :: rest ∧ (sE ≤ pc ∧ pc < eE) ∧ ct ≠ 0 ∧ Cond.classLink (nm mi).cls ct (exn x) ∈ tbl ∧ Cond.castable (exn x) (exn x) ∈ tbl ∧
  (∀ y ∈ pre, (y.1 ≤ pc ∧ pc < y.2.1) ∧ y.2.2.2 ≠ 0 ∧ ∃ n', Cond.classLink (nm mi).cls y.2.2.2 n' ∈ tbl ∧ Cond.not (Cond.castable (exn x) n') ∈ tbl) ∧ ((∃ jj : Fin 4, decode (bytes mi) hp = .ok (.astore_n jj, 1) ∧ jj.val = j ∧ t + 1 = hp + 1) ∨ (decode (bytes mi) hp = .ok (.astore j, 2) ∧ t + 1 = hp + 2)) ∧ j < ml mi
noncomputable def ez_cur (cs : List ez_C) (sk : Nat) : Nat := match sk with
  | 0 => (match cs with
    | [] => 0
    | q :: _ => q.1)
  | t + 1 => t
end EZC
theorem ez_notCast {args : Array Value} {s : State} {A C : String} {cA cC : ClassId} (h : (Cond.not (Cond.castable A C)).before args s = true) (hA : s.vm.findClass A = some cA) (hC : s.vm.findClass C = some cC) : s.vm.assignable cA cC = false := by
  cases hz : s.vm.assignable cA cC with
  | false => rfl
  | true => simp [Cond.before, Cond.holds, Cond.value, hA, hC, hz] at h
end
section
section EZK
variable {l : Launch} {D : va_G} {cl : List vw_C} {nf : Nat → Nat} {ty : Nat → Nat → FieldType} {dA : Nat → ClassId} {B : Nat} {ea : Nat → Nat} {exn : Nat → String} {E : Nat → Nat × (Nat → Int32)} {sta : Nat → String × String × String} {nm : Nat → MethodName} {bytes : Nat → ByteArray} {ml : Nat → Nat} {ret : Nat → Option FieldType} {hh : Nat → List (Nat × Nat × Nat × Nat)} {tbl : List Cond} {strs : List (String × Nat × String)} {hn : Nat → Nat → Nat → Option (Nat × Nat)}
variable {p : Program} {e : Env} {R : Room} {s : State} {m : MethodId} {args : Array Value} {below : List Frame} {meth : Method} {c : Code} {n0 u0 mi d : Nat} {Q : ez_Q}
set_option maxHeartbeats 2000000 in
/-- behind a call: it came back, or it threw -/
theorem ez_call_snd (hgd : ez_good tbl) (hH : ez_okH exn nm bytes ml hh tbl hn mi) (hcx : ez_Ctx nm bytes ml ret hh tbl mi p s m args meth c) (hsur : ez_Sur D cl dA B ea E sta strs s) (hs0 : s.heap.size = B + 1 + n0) (hcR : ez_MC ≤ n0 + R.cells) (hsR : ez_MS ≤ u0 + R.slots) {d' : Nat} (hd : d = d' + 1) (hfr : d + 6 ≤ R.frames) (hlo : 40 * d + 100 ≤ R.locals)
    {H : Heap} {locs : List Loc} {cells slots : Nat} {lsM : Array Slot} {pc a b k : Nat} {i : ClassFile.Instr} {ls : List (Option Value)} {st : List Value} {h : ez_H} (hck : ez_ck (nm mi).cls (nm a) (ez_wc (nm a) (bytes a) (ml a) (ret a) (hh a)) (ml a) (hh a = []) (ret a) tbl cl i b k) (hdc : decode (bytes mi) pc = .ok (i, 3))
    (hR : ez_Rel D cl nf ty dA B h H) (hS : va_S (ez_A B) s.heap H locs) (hn0 : n0 + cells = ez_n h) (hu0 : u0 + slots = ez_u h) (hn1 : ez_n h ≤ ez_MC) (hu1 : ez_u h ≤ ez_MS) (hl : lv_has lsM (ml mi) (ez_lv B ea ls))
    (hfew : ez_few (st.drop b) = true) (hlay : (ez_lay (st.take b).reverse).length ≤ ml a) (hlen : (st.take b).reverse.length = b) (hrc : ez_rcv h k (st.take b).reverse) {Q' : ez_Q} (hX : ez_Snd l D cl nf ty dA B ea exn E sta nm bytes ml ret hh tbl strs d' a 0 (ez_args (ml a) (st.take b).reverse) [] h Q')
    (back : ∀ (r : Option Value) (h' : ez_H), Q' (.inl r) h' → ∀ (H1 : Heap) (locs1 : List Loc) (cells1 slots1 : Nat), ez_Rel D cl nf ty dA B h' H1 → va_S (ez_A B) s.heap H1 locs1 → n0 + cells1 = ez_n h' → u0 + slots1 = ez_u h' → ez_n h' ≤ ez_MC → ez_u h' ≤ ez_MS → W p l e R s m args below meth c H1 locs1 cells1 slots1 (ez_Fin D cl nf ty dA B ea exn below s n0 u0 Q) (F0 m (pc + 3) lsM ((r.toList ++ st.drop b).map (ez_tr B ea))))
    (thr : ∀ (x : Nat) (h' : ez_H), Q' (.inr x) h' → (hn mi pc x = none ∧ Q (.inr x) h') ∨ (∃ t j, hn mi pc x = some (t + 1, j) ∧ ∀ (H1 : Heap) (locs1 : List Loc) (cells1 slots1 : Nat) (lsM1 : Array Slot), ez_Rel D cl nf ty dA B h' H1 → va_S (ez_A B) s.heap H1 locs1 → n0 + cells1 = ez_n h' → u0 + slots1 = ez_u h' → ez_n h' ≤ ez_MC → ez_u h' ≤ ez_MS → lv_has lsM1 (ml mi) (ez_lv B ea ((ez_cut ls j).set j none)) → W p l e R s m args below meth c H1 locs1 cells1 slots1 (ez_Fin D cl nf ty dA B ea exn below s n0 u0 Q) (F0 m (t + 1) lsM1 []))) :
    W p l e R s m args below meth c H locs cells slots (ez_Fin D cl nf ty dA B ea exn below s n0 u0 Q) (F0 m pc lsM (st.map (ez_tr B ea))) := by
  obtain ⟨hx, hb, hrt, hml, hown, hts, hlocks, hname, hexc⟩ := hcx
  intro T hT X
  subst hT
  obtain ⟨mk, vm₁, hnamed, X₁, hgo⟩ := ez_invoke (lsM := lsM) (ea := ea) X hx hb hown hts hsur.1 hR hck hlen hrc hdc
  obtain ⟨hpln, hyM, hini, hwc, hmx, -⟩ := hck
  have hw8 := ez_few_map (B := B) (ea := ea) hfew
  have hWw : ∀ w ∈ tbl, ∀ a', w.before a' (T.setVm vm₁) = true := fun w hw a' => hgd w hw _ a' _ (T.setVm vm₁) X₁.warmed (hts w hw)
  obtain ⟨mk2, methY, cY, g1, g2, g3, g4, g5, -⟩ := ez_wc_spec (hWw _ hwc #[])
  have hn2 := X₁.named hnamed
  cases hn2.symm.trans g1
  have hatm : (allAtoms (ez_wc (nm a) (bytes a) (ml a) (ret a) (hh a) :: tbl)).before ((st.take b).reverse.map (ez_tr B ea)).toArray (T.setVm vm₁) = true := atoms_intro fun w hw => (List.mem_cons.mp hw).elim (fun z => by rw [z]; exact hWw _ hwc _) (fun z => hWw _ z _)
  have hold : ∀ q : Nat, q < s.heap.size → ¬ ez_A B q → T.heap[q]? = s.heap[q]? := hS.2.1
  obtain ⟨o, t, hq, hst⟩ := ez_back (maxL := ml a) (a := ((st.take b).reverse.map (ez_tr B ea)).toArray) (ez_met l D cl nf ty dA B ea exn E sta nm bytes ml ret hh tbl strs hpln hlay hn1 hu1 hX) (by show d' + 6 + 1 ≤ R.frames; omega) (by show 8 + (ml a + 11) + (40 * d' + 100) ≤ R.locals; omega) X₁ (g := F0 m pc lsM ((st.drop b).map (ez_tr B ea))) rfl (by rw [hml]; exact hl.1) (by rw [hb]; exact hdc) (by show 2 * 0 + (((st.drop b).map (ez_tr B ea)).map fun v => v.category).sum ≤ 8; omega) hn2 g2 g3 g5 (hWw _ hini _)
    hatm (by show cells + (ez_MC - ez_n h) ≤ R.cells; omega) (by show slots + (ez_MS - ez_u h) ≤ R.slots; omega)
    ⟨rfl, hR, hsur.there _ _ _ _ _ _ _ _ (U := (T.setVm vm₁).calling _ mk _) X₁.warmed hold⟩
  obtain ⟨r, h', hQr, hout, hR', hW', ⟨b1, b2, b3, b4⟩, hfrm, hsz, L, hsame, hLA⟩ := hq
  obtain ⟨X₂, hsteps⟩ := hst L _ _ hW' hsame
  have hfrm' : ∀ q : Nat, q < T.heap.size → ¬ ez_A B q → t.heap[q]? = T.heap[q]? := hfrm
  have hsz' : T.heap.size ≤ t.heap.size := hsz
  have hS2 : va_S (ez_A B) s.heap t.heap (locs ++ L) := ⟨Nat.le_trans hS.1 hsz', fun q z1 z2 => (hfrm' q (Nat.lt_of_lt_of_le z1 hS.1) z2).trans (hS.2.1 q z1 z2), fun q hq => by
    rcases List.mem_append.mp hq with z | z
    · exact hS.2.2 q z
    · exact hLA q z⟩
  cases r with
  | inl v =>
    have ho : o = .returned (v.map (ez_tr B ea)) := hout
    subst ho
    obtain ⟨t2, a1, a2⟩ := back v h' hQr t.heap (locs ++ L) _ _ hR' hS2 (by omega) (by omega) b3 b4 (ez_bk (T.setVm vm₁) t) rfl X₂
    refine ⟨t2, hgo _ (hsteps.trans ?_), a2⟩
    have : (v.map (ez_tr B ea)).toList ++ (st.drop b).map (ez_tr B ea) = (v.toList ++ st.drop b).map (ez_tr B ea) := by cases v <;> rfl
    show Steps p.tables e below ((ez_bk (T.setVm vm₁) t).setTop (F0 m (pc + 3) lsM ((v.map (ez_tr B ea)).toList ++ (st.drop b).map (ez_tr B ea)))) t2
    rw [this]
    exact a1
  | inr x =>
    obtain ⟨ad, cell, ho, hcell, hobj, hfc⟩ := hout
    subst ho
    have hfc' : s.vm.findClass (exn x) = some cell.cls := by
      have hal := X₁.warmed.alike
      rw [← hal.findClass]
      exact hfc
    rcases thr x h' hQr with ⟨hnn, hQx⟩ | ⟨tt, j, hns, kk⟩
    · have hem : c.exceptionTable.toList = [] := by
        have := (hH pc x).1 hnn
        rw [this] at hexc
        simpa using hexc
      obtain ⟨w1, w2, w3, w4, w5⟩ := X₂.leaveThrown ad (g := F0 m pc lsM ((st.drop b).map (ez_tr B ea))) rfl rfl rfl (by rw [hem]; intro z hz; cases hz) (hlocks := hlocks)
      refine ⟨_, hgo _ (hsteps.trans w1), .threw ad, w2, w3, .inr x, h', hQx, ⟨ad, cell, rfl, hcell, hobj, hfc'⟩, hR', w4, ⟨by omega, by omega, b3, b4⟩, hS2.2.1, hS2.1, locs ++ L, ?_, hS2.2.2⟩
      rw [show ez_n h' - n0 = cells + (ez_n h' - ez_n h) by omega, show ez_u h' - u0 = slots + (ez_u h' - ez_u h) by omega]
      exact w5
    · obtain ⟨pre, sE, eE, hp, ct, rest, e1, e2, e3, e4, e5, e6, e7, e8⟩ := (hH pc x).2 tt j hns
      rw [e1] at hexc
      obtain ⟨preT, xs, f1, f2, f3⟩ := List.map_eq_append_iff.mp hexc
      obtain ⟨xT, restT, f4, f5, f6⟩ := List.map_eq_cons_iff.mp f3
      have f5' : xT.startPc = sE ∧ xT.endPc = eE ∧ xT.handlerPc = hp ∧ xT.catchType = ct := by
        injection f5 with z1 z2; injection z2 with z2 z3; injection z3 with z3 z4; exact ⟨z1, z2, z3, z4⟩
      obtain ⟨y1, y2, y3, y4⟩ := f5'
      obtain ⟨cA, cB, hcA, hcB, hasg⟩ := Cond.castable_spec (hts _ e5)
      cases hfc'.symm.trans hcA
      cases hfc'.symm.trans hcB
      obtain ⟨vm2, X₃, hcatch⟩ := ez_catch X₂ hown (g := F0 m pc lsM ((st.drop b).map (ez_tr B ea))) rfl hcell hobj rfl (Vm.classAt_of_findClass hfc') preT xT restT (by rw [f1, f4]) (by simp only [covers, Bool.and_eq_true, decide_eq_true_eq]; rw [y1, y2]; exact e2) (by rw [y4]; exact e3) (name := exn x) (by rw [y4]; exact hts _ e4) hfc' hasg
        (fun y hy => by
          obtain ⟨v1, v2, n', v3, v4⟩ := e6 (y.startPc, y.endPc, y.handlerPc, y.catchType) (by rw [← f2]; exact List.mem_map.mpr ⟨y, hy, rfl⟩)
          have hpl : e.platform.magicAccessors = ({} : Platform).magicAccessors := by rw [X.admits.platform]
          obtain ⟨cN, hcN, -⟩ := Cond.classLink_spec hown (hts _ v3) e.platform hpl
          exact ⟨by simp only [covers, Bool.and_eq_true, decide_eq_true_eq]; exact v1, v2, n', cN, hts _ v3, hcN, ez_notCast (hts _ v4) hfc' hcN⟩)
      have K : W p l e R s m args below meth c t.heap (locs ++ L) (cells + (ez_n h' - ez_n h)) (slots + (ez_u h' - ez_u h)) (ez_Fin D cl nf ty dA B ea exn below s n0 u0 Q) (F0 m hp lsM [.ref ad]) := by
        rcases e7 with ⟨jj, w1, rfl, w3⟩ | ⟨w1, w3⟩
        · refine lv_astore_n hx hb w1 rfl hl e8 rfl fun ls' hl' => ?_
          rw [← w3]
          exact kk _ _ _ _ ls' hR' hS2 (by omega) (by omega) b3 b4 (ez_lv_none hl')
        · refine lv_astore hx hb w1 hl e8 rfl fun ls' hl' => ?_
          rw [← w3]
          exact kk _ _ _ _ ls' hR' hS2 (by omega) (by omega) b3 b4 (ez_lv_none hl')
      obtain ⟨t2, a1, a2⟩ := K ((ez_bk (T.setVm vm₁) t).setVm vm2) rfl X₃
      refine ⟨t2, hgo _ (hsteps.trans (hcatch _ ?_)), a2⟩
      show Steps p.tables e below (((ez_bk (T.setVm vm₁) t).setVm vm2).setTop (F0 m xT.handlerPc lsM [.ref ad])) t2
      rw [y3]
      exact a1
set_option maxHeartbeats 4000000 in
theorem ez_walk (htr : l.stackTraces = false) (hgd : ez_good tbl) (hH : ez_okH exn nm bytes ml hh tbl hn mi) (hcx : ez_Ctx nm bytes ml ret hh tbl mi p s m args meth c) (hsur : ez_Sur D cl dA B ea E sta strs s) (hs0 : s.heap.size = B + 1 + n0) (hcR : ez_MC ≤ n0 + R.cells) (hsR : ez_MS ≤ u0 + R.slots) (hfr : d + 6 ≤ R.frames) (hlo : 40 * d + 100 ≤ R.locals) :
    ∀ (cs : List ez_C), ez_okL cl nf ty exn sta nm bytes ml ret hh tbl strs mi cs → ∀ (sk : Nat) (ls : List (Option Value)) (st : List Value) (h : ez_H) (H : Heap) (locs : List Loc) (cells slots : Nat) (lsM : Array Slot), ez_gw (ez_Snd l D cl nf ty dA B ea exn E sta nm bytes ml ret hh tbl strs) E ml (hn mi) mi d cs sk ls st h Q → ez_Rel D cl nf ty dA B h H → va_S (ez_A B) s.heap H locs → n0 + cells = ez_n h → u0 + slots = ez_u h → ez_n h ≤ ez_MC → ez_u h ≤ ez_MS → lv_has lsM (ml mi) (ez_lv B ea ls) →
      W p l e R s m args below meth c H locs cells slots (ez_Fin D cl nf ty dA B ea exn below s n0 u0 Q) (F0 m (ez_cur cs sk) lsM (st.map (ez_tr B ea))) := by
  obtain ⟨hx, hb, hrt, hml, hown, hts, hlocks, hname, hexc⟩ := id hcx
  intro cs
  induction cs with
  | nil => intro _ sk ls st h H locs cells slots lsM G; exact G.elim
  | cons q0 cs ih =>
    obtain ⟨pc, i, a, b, k, v⟩ := q0
    intro hok sk ls st h H locs cells slots lsM G hR hS hn0 hu0 hn1 hu1 hl
    obtain ⟨⟨okT, okD, okC, okB, okJ, okK, okR, okY⟩, okN, okL⟩ := hok
    have IH := ih okL
    have hmlS : c.maxLocals = lsM.size := by rw [hml, hl.1]
    -- the next instruction
    have nxt : ez_isSw i = false → ez_isThr i = false → ∀ (ls1 : List (Option Value)) (st1 : List Value) (h1 : ez_H) (H1 : Heap) (locs1 : List Loc) (cells1 slots1 : Nat) (lsM1 : Array Slot), ez_gw (ez_Snd l D cl nf ty dA B ea exn E sta nm bytes ml ret hh tbl strs) E ml (hn mi) mi d cs 0 ls1 st1 h1 Q → ez_Rel D cl nf ty dA B h1 H1 → va_S (ez_A B) s.heap H1 locs1 → n0 + cells1 = ez_n h1 → u0 + slots1 = ez_u h1 → ez_n h1 ≤ ez_MC → ez_u h1 ≤ ez_MS → lv_has lsM1 (ml mi) (ez_lv B ea ls1) → W p l e R s m args below meth c H1 locs1 cells1 slots1 (ez_Fin D cl nf ty dA B ea exn below s n0 u0 Q) (F0 m (pc + ez_ln i) lsM1 (st1.map (ez_tr B ea))) := by
      intro s1 s2 ls1 st1 h1 H1 locs1 cells1 slots1 lsM1 G1 r1 r2 r3 r4 r5 r6 r7
      cases cs with
      | nil => exact G1.elim
      | cons q' cs' =>
        have e1 : ez_cur (q' :: cs') 0 = pc + ez_ln i := okN q' cs' rfl s1 s2
        have := IH 0 ls1 st1 h1 H1 locs1 cells1 slots1 lsM1 G1 r1 r2 r3 r4 r5 r6 r7
        rw [e1] at this
        exact this
    -- a jump, forth or back
    have jmp : ∀ (t : Nat) (st1 : List Value), (match Nat.blt pc t with
        | true => ez_gw (ez_Snd l D cl nf ty dA B ea exn E sta nm bytes ml ret hh tbl strs) E ml (hn mi) mi d cs (t + 1) ls st1 h Q
        | false => ez_Snd l D cl nf ty dA B ea exn E sta nm bytes ml ret hh tbl strs d mi t ls st1 h Q) → W p l e R s m args below meth c H locs cells slots (ez_Fin D cl nf ty dA B ea exn below s n0 u0 Q) (F0 m t lsM (st1.map (ez_tr B ea))) := by
      intro t st1 G1
      cases hbt : Nat.blt pc t with
      | true =>
        simp only [hbt] at G1
        exact IH (t + 1) ls st1 h H locs cells slots lsM G1 hR hS hn0 hu0 hn1 hu1 hl
      | false =>
        simp only [hbt] at G1
        exact G1 p e R s m args below meth c H locs cells slots lsM n0 u0 hcx hsur hR hS hs0 hn0 hu0 hn1 hu1 hcR hsR hfr hlo hl
    unfold ez_gw at G
    cases h1 : ez_past sk pc with
    | true =>
      simp only [h1] at G
      have e1 : ez_cur ((pc, i, a, b, k, v) :: cs) sk = ez_cur cs sk := by
        cases sk with
        | zero => cases h1
        | succ t => rfl
      rw [e1]
      exact IH sk ls st h H locs cells slots lsM G hR hS hn0 hu0 hn1 hu1 hl
    | false =>
      have e1 : ez_cur ((pc, i, a, b, k, v) :: cs) sk = pc := by
        cases sk with
        | zero => rfl
        | succ t =>
          have : Nat.beq (t + 1) (pc + 1) = true := by
            unfold ez_past at h1
            cases hz : Nat.beq (t + 1) (pc + 1) with
            | true => rfl
            | false => rw [hz] at h1; cases h1
          have := Nat.eq_of_beq_eq_true this
          show t = pc
          omega
      rw [e1]
      simp only [h1] at G
      have dec : ez_isSw i = false → ez_isThr i = false → decode (bytes mi) pc = .ok (i, ez_ln i) := fun s1 s2 => by
        obtain ⟨len, d1, d2⟩ := okD s2
        rw [← d2 s1]
        exact d1
      cases h2 : ez_op i v st with
      | some st' =>
        simp only [h2] at G
        have s1 : ez_isSw i = false ∧ ez_isThr i = false := by
          unfold ez_op at h2
          split at h2 <;> first | exact ⟨rfl, rfl⟩ | cases h2
        exact ez_op_snd hx hb hown hts (dec s1.1 s1.2) okC h2 (nxt s1.1 s1.2 ls st' h H locs cells slots lsM G hR hS hn0 hu0 hn1 hu1 hl)
      | none =>
        simp only [h2] at G
        cases h3 : ez_ld i ls st with
        | some st' =>
          simp only [h3] at G
          have s1 : ez_isSw i = false ∧ ez_isThr i = false := by
            unfold ez_ld at h3
            split at h3 <;> first | exact ⟨rfl, rfl⟩ | cases h3
          exact ez_ld_snd hx hb hl (dec s1.1 s1.2) h3 (nxt s1.1 s1.2 ls st' h H locs cells slots lsM G hR hS hn0 hu0 hn1 hu1 hl)
        | none =>
          simp only [h3] at G
          cases h4 : ez_st i v ls st with
          | some q =>
            obtain ⟨ls', st'⟩ := q
            simp only [h4] at G
            have s1 : ez_isSw i = false ∧ ez_isThr i = false := by
              unfold ez_st at h4
              split at h4 <;> first | exact ⟨rfl, rfl⟩ | cases h4
            exact ez_st_snd hx hb hl (dec s1.1 s1.2) okC h4 fun lsM' hl' => nxt s1.1 s1.2 ls' st' h H locs cells slots lsM' G hR hS hn0 hu0 hn1 hu1 hl'
          | none =>
            simp only [h4] at G
            cases h5 : ez_br i st with
            | some q =>
              obtain ⟨cd, st'⟩ := q
              simp only [h5] at G
              have s1 : (ez_isSw i = false ∧ ez_isThr i = false) ∧ ez_ln i = 3 := by
                unfold ez_br at h5
                split at h5 <;> first | exact ⟨⟨rfl, rfl⟩, rfl⟩ | cases h5
              refine ez_br_snd hx hb (a := a) (dec s1.1.1 s1.1.2) okB h5 (fun z => jmp a st' (G.1 z)) (fun z => ?_)
              have := nxt s1.1.1 s1.1.2 ls st' h H locs cells slots lsM (G.2 z) hR hS hn0 hu0 hn1 hu1 hl
              rw [s1.2] at this
              exact this
            | none =>
              simp only [h5] at G
              cases h6 : ez_sm E i a b k ls st h with
              | some q =>
                obtain ⟨cd, st', h'⟩ := q
                simp only [h6] at G
                have s1 : ez_isSw i = false ∧ ez_isThr i = false := by
                  unfold ez_sm at h6
                  split at h6 <;> first | exact ⟨rfl, rfl⟩ | cases h6
                exact ez_sm_snd hx hb hmlS hown hts hsur.1 hR hS hsur.2.1 hsur.2.2.1 hs0 hn0 hu0 hn1 hu1 hcR hsR (by omega) (by omega) (dec s1.1 s1.2) (by rw [hname]; exact okK) h6 G.1 fun H1 locs1 cells1 slots1 r1 r2 r3 r4 r5 r6 => nxt s1.1 s1.2 ls st' h' H1 locs1 cells1 slots1 lsM G.2 r1 r2 r3 r4 r5 r6 hl
              | none =>
                simp only [h6] at G
                cases h7 : ez_rt i a st with
                | some q =>
                  obtain ⟨cd, r⟩ := q
                  simp only [h7] at G
                  have s1 : ez_isSw i = false ∧ ez_isThr i = false := by
                    unfold ez_rt at h7
                    split at h7 <;> first | exact ⟨rfl, rfl⟩ | cases h7
                  exact ez_rt_snd (a := a) hx hb hlocks (by rw [hrt]; exact okR) hR hS hn0 hu0 hn1 hu1 (dec s1.1 s1.2) h7 G.1 G.2
                | none =>
                  simp only [h7] at G
                  cases h8 : ez_jp i pc a st with
                  | mk J st' =>
                    cases J with
                    | some J =>
                      simp only [h8] at G
                      have s2 : ez_isThr i = false := by
                        unfold ez_jp at h8
                        split at h8 <;> first | rfl | cases h8
                      obtain ⟨len, d1, d2⟩ := okD s2
                      exact ez_jp_snd hx hb d1 (fun o ho => by rw [ho] at d2; rw [d2 rfl]; rfl) okJ h8 G fun t ht => jmp t st' ht
                    | none =>
                      simp only [h8] at G
                      cases h9 : ez_cl i k with
                      | true =>
                        simp only [h9] at G
                        have s1 : (ez_isSw i = false ∧ ez_isThr i = false) ∧ ez_ln i = 3 := by
                          unfold ez_cl at h9
                          split at h9 <;> first | exact ⟨⟨rfl, rfl⟩, rfl⟩ | cases h9
                        cases d with
                        | zero => exact G.elim
                        | succ d' =>
                          obtain ⟨⟨c1, c2, c3, c4⟩, GX⟩ := G
                          have hdc := dec s1.1.1 s1.1.2
                          rw [s1.2] at hdc
                          refine ez_call_snd hgd hH hcx hsur hs0 hcR hsR rfl hfr hlo (okY h9) hdc hR hS hn0 hu0 hn1 hu1 hl c1 (Nat.le_of_ble_eq_true c2) (Nat.eq_of_beq_eq_true c3) c4 GX ?_ ?_
                          · intro r h' hq H1 locs1 cells1 slots1 r1 r2 r3 r4 r5 r6
                            cases r with
                            | none =>
                              have := nxt s1.1.1 s1.1.2 ls (st.drop b) h' H1 locs1 cells1 slots1 lsM hq r1 r2 r3 r4 r5 r6 hl
                              rw [s1.2] at this
                              exact this
                            | some w =>
                              have := nxt s1.1.1 s1.1.2 ls (w :: st.drop b) h' H1 locs1 cells1 slots1 lsM hq r1 r2 r3 r4 r5 r6 hl
                              rw [s1.2] at this
                              exact this
                          · intro x h' hq
                            cases h10 : hn mi pc x with
                            | none => simp only [h10] at hq; exact Or.inl ⟨rfl, hq⟩
                            | some z =>
                              obtain ⟨t, j⟩ := z
                              simp only [h10] at hq
                              cases t with
                              | zero => exact hq.elim
                              | succ t' => exact Or.inr ⟨t', j, rfl, fun H1 locs1 cells1 slots1 lsM1 r1 r2 r3 r4 r5 r6 r7 => IH (t' + 2) _ [] h' H1 locs1 cells1 slots1 lsM1 hq r1 r2 r3 r4 r5 r6 r7⟩
                      | false =>
                        simp only [h9] at G
                        split at G
                        · split at G
                          · obtain ⟨i0, i1, i2, tx, t0, t1, t2, t3, t4, t5, t6, t7, t8, t9, t10⟩ := okT rfl
                            rw [t10] at hexc
                            obtain ⟨qs, hqs⟩ := hsur.2.2.2.2 _ t5
                            intro T hT X
                            have htr' : e.platform.stackTraces = false := by rw [X.admits.platform]; exact htr
                            exact ez_throw hx hb hlocks hmlS hown hts hgd htr' hsur.2.2.2.1 (by simpa [Array.isEmpty] using hexc) hR hS hs0 hn0 hu0 G.1.1 G.1.2 hcR hsR (by omega) (by omega) t6 t7 t8 t9 hqs t0 t1 t2 t3 t4 G.2 T hT X
                          · exact G.elim
                        · exact G.elim
end EZK
/-- SOUNDNESS -/
theorem ez_sound {l : Launch} {D : va_G} {cl : List vw_C} {nf : Nat → Nat} {ty : Nat → Nat → FieldType} {dA : Nat → ClassId} {B : Nat} {ea : Nat → Nat} {exn : Nat → String} {E : Nat → Nat × (Nat → Int32)} {sta : Nat → String × String × String} {nm : Nat → MethodName} {bytes : Nat → ByteArray} {ml : Nat → Nat} {ret : Nat → Option FieldType} {hh : Nat → List (Nat × Nat × Nat × Nat)} {tbl : List Cond} {strs : List (String × Nat × String)} {hn : Nat → Nat → Nat → Option (Nat × Nat)} {code : Nat → List ez_C}
    (htr : l.stackTraces = false) (hgd : ez_good tbl) (hH : ∀ mi, ez_okH exn nm bytes ml hh tbl hn mi) (hL : ∀ mi, ez_okL cl nf ty exn sta nm bytes ml ret hh tbl strs mi (code mi)) : ez_Closed E ml hn code (ez_Snd l D cl nf ty dA B ea exn E sta nm bytes ml ret hh tbl strs) := by
  intro d mi pc ls st h Q G p e R s m args below meth c H locs cells slots lsM n0 u0 a1 a2 a3 a4 a5 a6 a7 a8 a9 a10 a11 a12 a13 a14
  exact ez_walk htr hgd (hH mi) a1 a2 a5 a10 a11 a12 a13 (code mi) (hL mi) (pc + 1) ls st h H locs cells slots lsM G a3 a4 a6 a7 a8 a9 a14
end
section
/-! THE TABLES ARE CHECKED BY A PROGRAM: tb: the words that a class's methods need; each is one of the tables' own -/
section EZT
variable (own : String) (tb : List Cond) (ncl : Nat) (ct : Nat → u_T) (cn : Nat → String) (nf : Nat → Nat) (ty : Nat → Nat → FieldType) (sta : Nat → String × String × String) (host : String)
/-- a number that tells most words apart: looked at first -/
noncomputable def ez_ky (w : Cond) : Nat := match w with
  | .fieldLink _ i _ _ _ => 16 * i + 1
  | .fieldLinkNest _ i _ _ _ _ => 16 * i + 2
  | .methodLink _ i _ => 16 * i + 3
  | .methodLinkNest _ i _ _ => 16 * i + 4
  | .constant _ i _ => 16 * i + 5
  | .constantLong _ i _ => 16 * i + 6
  | .classLink _ i _ => 16 * i + 7
  | .instantiable _ n => 16 * n + 8
  | .initialized _ => 9
  | .instanceMethod _ => 10
  | .static _ => 11
  | .native _ => 12
  | .selects _ _ _ => 13
  | .arrayClass _ => 14
  | _ => 0
noncomputable def ez_inb (w : Cond) : Bool := tb.any (fun v => Nat.beq (ez_ky v) (ez_ky w) && decide (v = w))
theorem ez_inb_iff {w : Cond} : ez_inb tb w = true ↔ w ∈ tb := by
  unfold ez_inb
  rw [List.any_eq_true]
  constructor
  · rintro ⟨v, hv, e⟩
    rw [Bool.and_eq_true] at e
    rw [← of_decide_eq_true e.2]
    exact hv
  · intro h
    exact ⟨w, h, by rw [Bool.and_eq_true]; exact ⟨Nat.beq_refl _, decide_eq_true rfl⟩⟩
noncomputable def ez_cstb (nL : Nat) (i : ClassFile.Instr) (v : Int32) : Bool := match i with
  | .iconst n => decide (Int32.ofInt n = v)
  | .bipush n => decide ((Int8.ofInt n).toInt32 = v)
  | .sipush n => decide ((Int16.ofInt n).toInt32 = v)
  | .lconst n => decide (Int64.ofNat (n : Nat) = v.toInt64)
  | .ldc j => ez_inb tb (.constant own j v)
  | .ldc_w j => ez_inb tb (.constant own j v)
  | .ldc2_w j => ez_inb tb (.constantLong own j v.toInt64)
  | .iinc k n => decide (Int32.ofInt n = v) && decide (k < nL)
  | .istore k => decide (k < nL)
  | .istore_n k => decide (k.val < nL)
  | .astore k => decide (k < nL)
  | .astore_n k => decide (k.val < nL)
  | .lstore k => decide (k + 1 < nL)
  | .lstore_n k => decide (k.val + 1 < nL)
  | _ => true
theorem ez_cstb_ok {tbl : List Cond} (hs : ∀ w ∈ tb, w ∈ tbl) {nL : Nat} {i : ClassFile.Instr} {v : Int32} (h : ez_cstb own tb nL i v = true) : ez_cst own tbl nL i v := by
  cases i <;> simp only [ez_cstb, ez_cst, ez_inb_iff, decide_eq_true_eq, Bool.and_eq_true] at h ⊢ <;> first | exact h | exact hs _ h | trivial
noncomputable def ez_brb (i : ClassFile.Instr) (pc a : Nat) : Bool := match i with
  | .ifCond _ off => decide ((pc : Int) + off = (a : Int))
  | .if_icmp _ off => decide ((pc : Int) + off = (a : Int))
  | _ => true
theorem ez_brb_ok {i : ClassFile.Instr} {pc a : Nat} (h : ez_brb i pc a = true) : ∀ cn off, i = .ifCond cn off ∨ i = .if_icmp cn off → (pc : Int) + off = (a : Int) := by
  rintro cn off (rfl | rfl)
  · exact of_decide_eq_true h
  · exact of_decide_eq_true h
noncomputable def ez_jkb (i : ClassFile.Instr) (pc a : Nat) : Bool := match i with
  | .goto off => decide ((pc : Int) + off = (a : Int))
  | .tableswitch df lo hi os => decide ((∀ o ∈ os.toList, 0 ≤ (pc : Int) + o) ∧ 0 ≤ (pc : Int) + df ∧ hi = lo + os.toList.length - 1 ∧ ∀ q ∈ ez_tab lo os.toList, (Int32.ofInt q.1).toInt = q.1)
  | .lookupswitch df ps => decide ((∀ q ∈ ps.toList, 0 ≤ (pc : Int) + q.2) ∧ 0 ≤ (pc : Int) + df ∧ (ps.toList.zip (ps.toList.drop 1)).all (fun (a, next) => a.1 < next.1) = true ∧ ∀ q ∈ ps.toList, (Int32.ofInt q.1).toInt = q.1)
  | _ => true
theorem ez_jkb_ok {i : ClassFile.Instr} {pc a : Nat} (h : ez_jkb i pc a = true) : ez_jk i pc a := by
  cases i <;> simp only [ez_jkb, ez_jk] at h ⊢ <;> first | exact of_decide_eq_true h | trivial
noncomputable def ez_tyb (k : Nat) (t : FieldType) : Bool := match k with
  | 0 => decide (t = .int)
  | 1 => decide (t = .boolean)
  | 2 => decide (t = .long)
  | _ + 3 => (match t with
    | .object _ => true
    | .array _ => true
    | _ => false)
theorem ez_tyb_ok {k : Nat} {t : FieldType} (h : ez_tyb k t = true) : (k = 0 → t = .int) ∧ (k = 1 → t = .boolean) ∧ (k = 2 → t = .long) ∧ (3 ≤ k → (∃ n, t = .object n) ∨ ∃ n, t = .array n) := by
  match k, h with
  | 0, h => exact ⟨fun _ => of_decide_eq_true h, fun q => by omega, fun q => by omega, fun q => by omega⟩
  | 1, h => exact ⟨fun q => by omega, fun _ => of_decide_eq_true h, fun q => by omega, fun q => by omega⟩
  | 2, h => exact ⟨fun q => by omega, fun q => by omega, fun _ => of_decide_eq_true h, fun q => by omega⟩
  | k + 3, h =>
    refine ⟨fun q => by omega, fun q => by omega, fun q => by omega, fun _ => ?_⟩
    cases t <;> simp only [ez_tyb] at h
    all_goals first | exact Or.inl ⟨_, rfl⟩ | exact Or.inr ⟨_, rfl⟩ | cases h
noncomputable def ez_flb (idx a b : Nat) : Bool := ez_inb tb (.fieldLink own idx (ct a b).1 (ct a b).2.1 (ct a b).2.2.1) || ez_inb tb (.fieldLinkNest own idx (ct a b).1 (ct a b).2.1 (ct a b).2.2.1 host)
noncomputable def ez_lkb (ini : Bool) (i : ClassFile.Instr) (a b k : Nat) : Bool := match i with
  | .getfield idx => decide (0 < a) && decide (a ≤ ncl) && decide (b < nf a) && ez_flb own tb ct host idx a b && ez_tyb k (ty a b)
  | .putfield idx => decide (0 < a) && decide (a ≤ ncl) && decide (b < nf a) && ((!(ct a b).2.2.2 && ez_flb own tb ct host idx a b) || ((ct a b).2.2.2 && ini && decide ((ct a b).1 = own) && ez_inb tb (.fieldLink own idx (ct a b).1 (ct a b).2.1 (ct a b).2.2.1))) && ez_tyb k (ty a b)
  | .getstatic idx => decide (0 < a) && (ez_inb tb (.fieldLink own idx (sta a).1 (sta a).2.1 (sta a).2.2) || ez_inb tb (.fieldLinkNest own idx (sta a).1 (sta a).2.1 (sta a).2.2 host))
  | .newarray at_ => (decide (at_ = .int ∧ a = 1000) || decide (at_ = .long ∧ a = 1002) || decide (at_ = .byte ∧ a = 1003)) && ez_inb tb (.arrayClass (newarray.typeOf at_))
  | .new idx => decide (0 < a) && decide (a ≤ ncl) && decide (b = nf a) && ez_inb tb (.classLink own idx (cn a)) && ez_inb tb (.instantiable (cn a) (nf a)) && ez_inb tb (.initialized (cn a)) && (List.range (nf a)).all (fun k => ez_tyb 0 (ty a k) || ez_tyb 1 (ty a k) || ez_tyb 2 (ty a k) || ez_tyb 3 (ty a k))
  | .invokespecial idx => !(decide (k = 0)) || (ez_inb tb (.methodLink own idx Lib.objectInit) && ez_inb tb (.instanceMethod Lib.objectInit))
  | .invokestatic idx => (!(decide (k = 1)) || (ez_inb tb (.methodLink own idx Lib.Math.max.name) && ez_inb tb (.static Lib.Math.max.name))) && (!(decide (k = 2)) || (ez_inb tb (.methodLink own idx Lib.Math.min.name) && ez_inb tb (.static Lib.Math.min.name))) && (!(decide (3 ≤ k)) || (ez_inb tb (.methodLink own idx arraycopyName) && ez_inb tb (.native arraycopyName) && ez_inb tb (.static arraycopyName)))
  | _ => true
/-- words that hold for all classes alike -/
def ez_gen (tbl : List Cond) : Prop := Cond.code Lib.objectInit ⟨#[0xb1]⟩ 1 none ∈ tbl ∧ Cond.initialized "java/lang/Math" ∈ tbl ∧ Cond.initialized "java/lang/System" ∈ tbl ∧ Cond.code Lib.Math.max.name Lib.Math.max.code 2 (some .int) ∈ tbl ∧ Cond.code Lib.Math.min.name Lib.Math.min.code 2 (some .int) ∈ tbl
theorem ez_flb_ok {tbl : List Cond} (hs : ∀ w ∈ tb, w ∈ tbl) {idx a b : Nat} (h : ez_flb own tb ct host idx a b = true) : Cond.fieldLink own idx (ct a b).1 (ct a b).2.1 (ct a b).2.2.1 ∈ tbl ∨ ∃ host, Cond.fieldLinkNest own idx (ct a b).1 (ct a b).2.1 (ct a b).2.2.1 host ∈ tbl := by
  simp only [ez_flb, ez_inb_iff, Bool.or_eq_true, decide_eq_true_eq] at h
  exact h.imp (hs _) (fun z => ⟨host, hs _ z⟩)
set_option maxHeartbeats 1000000 in
theorem ez_lkb_ok {tbl : List Cond} {cl : List vw_C} (hs : ∀ w ∈ tb, w ∈ tbl) (hg : ez_gen tbl) (hcls : ∀ a, 0 < a → a ≤ ncl → ez_Cls tbl cl nf ty a (cn a) (ct a)) {ini : Bool} {P : Prop} (hini : ini = true → P) {i : ClassFile.Instr} {a b k : Nat} (h : ez_lkb own tb ncl ct cn nf ty sta host ini i a b k = true) : ez_lk own tbl cl nf ty sta P i a b k := by
  unfold ez_lkb at h
  split at h
  · simp only [Bool.and_eq_true, decide_eq_true_eq] at h
    obtain ⟨⟨⟨⟨h1, h2⟩, h3⟩, h4⟩, h5⟩ := h
    exact ⟨_, _, hcls a h1 h2, h3, ez_flb_ok own tb ct host hs h4, ez_tyb_ok h5⟩
  · simp only [Bool.and_eq_true, Bool.or_eq_true, Bool.not_eq_true', decide_eq_true_eq, ez_inb_iff] at h
    obtain ⟨⟨⟨⟨h1, h2⟩, h3⟩, h4⟩, h5⟩ := h
    refine ⟨_, _, hcls a h1 h2, h3, ?_, ez_tyb_ok h5⟩
    rcases h4 with ⟨z1, z2⟩ | ⟨⟨⟨z1, z2⟩, z3⟩, z4⟩
    · exact Or.inl ⟨z1, ez_flb_ok own tb ct host hs z2⟩
    · exact Or.inr ⟨z1, hini z2, z3, hs _ z4⟩
  · simp only [Bool.and_eq_true, Bool.or_eq_true, decide_eq_true_eq, ez_inb_iff] at h
    exact ⟨h.1, h.2.imp (hs _) (fun z => ⟨host, hs _ z⟩)⟩
  · simp only [Bool.and_eq_true, Bool.or_eq_true, decide_eq_true_eq, ez_inb_iff] at h
    exact ⟨(or_assoc.mp h.1), hs _ h.2⟩
  · simp only [Bool.and_eq_true, decide_eq_true_eq, ez_inb_iff] at h
    obtain ⟨⟨⟨⟨⟨⟨h1, h2⟩, h3⟩, h4⟩, h5⟩, h6⟩, h7⟩ := h
    refine ⟨_, _, hcls a h1 h2, h3, hs _ h4, hs _ h5, hs _ h6, fun j hj => ?_⟩
    have := List.all_eq_true.mp h7 j (List.mem_range.mpr hj)
    simp only [Bool.or_eq_true] at this
    rcases this with ((z | z) | z) | z
    · exact Or.inl ((ez_tyb_ok z).1 rfl)
    · exact Or.inr (Or.inl ((ez_tyb_ok z).2.1 rfl))
    · exact Or.inr (Or.inr (Or.inl ((ez_tyb_ok z).2.2.1 rfl)))
    · exact Or.inr (Or.inr (Or.inr ((ez_tyb_ok z).2.2.2 (Nat.le_refl _))))
  · simp only [Bool.and_eq_true, Bool.or_eq_true, Bool.not_eq_true', decide_eq_false_iff_not, decide_eq_true_eq, ez_inb_iff] at h
    intro hk
    rcases h with z | z
    · exact absurd hk z
    · exact ⟨hs _ z.1, hs _ z.2, hg.1⟩
  · simp only [Bool.and_eq_true, Bool.or_eq_true, Bool.not_eq_true', decide_eq_false_iff_not, decide_eq_true_eq, ez_inb_iff] at h
    obtain ⟨⟨h1, h2⟩, h3⟩ := h
    refine ⟨fun hk => ?_, fun hk => ?_, fun hk => ?_⟩
    · rcases h1 with z | z
      · exact absurd hk z
      · exact ⟨hs _ z.1, hs _ z.2, hg.2.1, hg.2.2.2.1⟩
    · rcases h2 with z | z
      · exact absurd hk z
      · exact ⟨hs _ z.1, hs _ z.2, hg.2.1, hg.2.2.2.2⟩
    · rcases h3 with z | z
      · exact absurd hk z
      · exact ⟨hs _ z.1.1, hs _ z.1.2, hs _ z.2, hg.2.2.1⟩
  · unfold ez_lk
    split <;> first | trivial | simp_all
end EZT
end
section
section EZU
variable (cl : List vw_C) (nf : Nat → Nat) (ty : Nat → Nat → FieldType) (exn : Nat → String) (sta : Nat → String × String × String) (nm : Nat → MethodName) (bytes : Nat → ByteArray) (ml : Nat → Nat) (ret : Nat → Option FieldType) (hh : Nat → List (Nat × Nat × Nat × Nat)) (tbl : List Cond) (strs : List (String × Nat × String))
variable (tb : List Cond) (ncl nM : Nat) (ct : Nat → u_T) (cn : Nat → String) (host : String) (thr : List (Nat × Nat × Nat))
noncomputable def ez_ckb (own : String) (y : MethodName) (n : Nat) (noH : Bool) (rt : Option FieldType) (i : ClassFile.Instr) (b k : Nat) : Bool :=
  plainName y.cls && decide (y.cls ≠ "java/lang/invoke/MethodHandle") && decide (y.cls ≠ "java/lang/invoke/VarHandle") && ez_inb tb (.initialized y.cls) && decide (n ≤ 21) && (match i with
  | .invokevirtual idx => ez_inb tb (.methodLink own idx y) && ez_inb tb (.instanceMethod y) && ez_inb tb (.selects y.cls y y) && decide (0 < k) && decide (k ≤ ncl) && decide (cn k = y.cls) && decide ((parseMethodDescriptor y.desc).map (fun d => d.parameters.length + 1) = some b)
  | .invokespecial idx => (ez_inb tb (.methodLink own idx y) || ez_inb tb (.methodLinkNest own idx y host)) && decide (y.name = "<init>") && ez_inb tb (.instanceMethod y) && noH && decide (rt = none) && decide (0 < k) && decide ((parseMethodDescriptor y.desc).map (fun d => d.parameters.length + 1) = some b)
  | .invokestatic idx => (ez_inb tb (.methodLink own idx y) || ez_inb tb (.methodLinkNest own idx y host)) && ez_inb tb (.static y) && decide (k = 0) && decide ((parseMethodDescriptor y.desc).map (fun d => d.parameters.length) = some b)
  | _ => false)
theorem ez_ckb_ok (hs : ∀ w ∈ tb, w ∈ tbl) (hcls : ∀ a, 0 < a → a ≤ ncl → ez_Cls tbl cl nf ty a (cn a) (ct a)) {own : String} {y : MethodName} {wc : Cond} {n : Nat} {noH : Bool} {P : Prop} (hP : noH = true → P) {rt : Option FieldType} {i : ClassFile.Instr} {b k : Nat} (hwc : wc ∈ tbl) (h : ez_ckb tb ncl cn host own y n noH rt i b k = true) : ez_ck own y wc n P rt tbl cl i b k := by
  simp only [ez_ckb, Bool.and_eq_true, decide_eq_true_eq, ez_inb_iff] at h
  obtain ⟨⟨⟨⟨⟨h1, h2⟩, h3⟩, h4⟩, h5⟩, h6⟩ := h
  refine ⟨h1, ⟨h2, h3⟩, hs _ h4, hwc, h5, ?_⟩
  split at h6
  · simp only [Bool.and_eq_true, decide_eq_true_eq, ez_inb_iff] at h6
    obtain ⟨⟨⟨⟨⟨⟨z1, z2⟩, z3⟩, z4⟩, z5⟩, z6⟩, z7⟩ := h6
    have hC := hcls k z4 z5
    refine ⟨hs _ z1, hs _ z2, hs _ z3, ⟨z4, hC.2.1⟩, ⟨ct k, nf k, ?_⟩, z7⟩
    rw [← z6]
    exact hC.2.2.1
  · simp only [Bool.and_eq_true, Bool.or_eq_true, decide_eq_true_eq, ez_inb_iff] at h6
    obtain ⟨⟨⟨⟨⟨⟨z1, z2⟩, z3⟩, z4⟩, z5⟩, z6⟩, z7⟩ := h6
    exact ⟨z1.imp (hs _) (fun z => ⟨host, hs _ z⟩), z2, hs _ z3, hP z4, z5, z6, z7⟩
  · simp only [Bool.and_eq_true, Bool.or_eq_true, decide_eq_true_eq, ez_inb_iff] at h6
    obtain ⟨⟨⟨z1, z2⟩, z3⟩, z4⟩ := h6
    exact ⟨z1.imp (hs _) (fun z => ⟨host, hs _ z⟩), hs _ z2, z3, z4⟩
  · cases h6
/-! an instruction is told by the four bytes at its place: decode over a window (the operands in use alone) -/
def dw_ag (bs bs' : ByteArray) (d : Nat) : Prop := ∀ p (h : p < bs'.size), ∃ h2 : d + p < bs.size, bs[d + p]'h2 = bs'[p]'h
def dw {α : Type} (bs bs' : ByteArray) (d : Nat) (r r' : ClassFile.Decoder α) : Prop := ∀ p x q, r' bs' p = .ok (x, q) → r bs (d + p) = .ok (x, d + q)
section DW
variable {bs bs' : ByteArray} {d : Nat}
theorem dw_pure {α : Type} (a : α) : dw bs bs' d (pure a) (pure a) := by
  intro p x q h
  have h' : (Except.ok (a, p) : Except ClassFile.DecodeError (α × Nat)) = .ok (x, q) := h
  cases h'
  rfl
theorem dw_bind {α β : Type} {r r' : ClassFile.Decoder α} {f f' : α → ClassFile.Decoder β} (h : dw bs bs' d r r') (g : ∀ a, dw bs bs' d (f a) (f' a)) : dw bs bs' d (r >>= f) (r' >>= f') := by
  intro p x q e
  have e2 : Except.bind (r' bs' p) (fun v => f' v.1 bs' v.2) = .ok (x, q) := e
  cases hv : r' bs' p with
  | error er =>
    rw [hv] at e2
    have e3 : (Except.error er : Except ClassFile.DecodeError (β × Nat)) = .ok (x, q) := e2
    cases e3
  | ok v =>
    obtain ⟨a, s⟩ := v
    rw [hv] at e2
    have e3 : f' a bs' s = .ok (x, q) := e2
    have h3 := h p a s hv
    show Except.bind (r bs (d + p)) (fun v => f v.1 bs v.2) = .ok (x, d + q)
    rw [h3]
    exact g a s x q e3
theorem dw_map {α β : Type} {f : α → β} {r r' : ClassFile.Decoder α} (h : dw bs bs' d r r') : dw bs bs' d (f <$> r) (f <$> r') := by
  intro p x q e
  have e2 : Except.bind (r' bs' p) (fun v => Except.ok (f v.1, v.2)) = Except.ok (x, q) := e
  cases hv : r' bs' p with
  | error er =>
    rw [hv] at e2
    have e3 : (Except.error er : Except ClassFile.DecodeError (β × Nat)) = .ok (x, q) := e2
    cases e3
  | ok v =>
    obtain ⟨a, s⟩ := v
    rw [hv] at e2
    have e3 : (Except.ok (f a, s) : Except ClassFile.DecodeError (β × Nat)) = .ok (x, q) := e2
    cases e3
    have h3 := h p a q hv
    show Except.bind (r bs (d + p)) (fun v => Except.ok (f v.1, v.2)) = Except.ok (f a, d + q)
    rw [h3]
    rfl
theorem dw_u1v {b : ByteArray} {p : Nat} (hp : p < b.size) : (ClassFile.Reader.u1 : ClassFile.Decoder Nat) b p = .ok ((b[p]'hp).toNat, p + 1) := by
  show (dite (p < b.size) (fun h => (do set (p + 1); pure (b[p]'h).toNat : ClassFile.Decoder Nat)) (fun _ => throw (ClassFile.HasTruncated.truncated p))) b p = _
  rw [dif_pos hp]
  rfl
theorem dw_u1e {b : ByteArray} {p : Nat} (hp : ¬p < b.size) : (ClassFile.Reader.u1 : ClassFile.Decoder Nat) b p = .error (ClassFile.HasTruncated.truncated p) := by
  show (dite (p < b.size) (fun h => (do set (p + 1); pure (b[p]'h).toNat : ClassFile.Decoder Nat)) (fun _ => throw (ClassFile.HasTruncated.truncated p))) b p = _
  rw [dif_neg hp]
  rfl
theorem dw_u1 (ha : dw_ag bs bs' d) : dw bs bs' d ClassFile.Reader.u1 ClassFile.Reader.u1 := by
  intro p x q h
  by_cases hp : p < bs'.size
  · obtain ⟨h2, e⟩ := ha p hp
    rw [dw_u1v hp] at h
    cases h
    rw [dw_u1v h2, e]
    rfl
  · rw [dw_u1e hp] at h
    cases h
theorem dw_s1 (ha : dw_ag bs bs' d) : dw bs bs' d ClassFile.Reader.s1 ClassFile.Reader.s1 := dw_map (dw_u1 ha)
theorem dw_u2 (ha : dw_ag bs bs' d) : dw bs bs' d ClassFile.Reader.u2 ClassFile.Reader.u2 := dw_bind (dw_u1 ha) (fun _ => dw_bind (dw_u1 ha) (fun _ => dw_pure _))
theorem dw_s2 (ha : dw_ag bs bs' d) : dw bs bs' d ClassFile.Reader.s2 ClassFile.Reader.s2 := dw_map (dw_u2 ha)
theorem dw_bindC (ha : dw_ag bs bs' d) {β : Type} {f f' : Nat → ClassFile.Decoder β} {S : List Nat} (g : ∀ a ∈ S, dw bs bs' d (f a) (f' a)) {p q : Nat} {x : β} (hok : ∀ h : p < bs'.size, (bs'[p]'h).toNat ∈ S) (e : ((ClassFile.Reader.u1 : ClassFile.Decoder Nat) >>= f') bs' p = .ok (x, q)) : ((ClassFile.Reader.u1 : ClassFile.Decoder Nat) >>= f) bs (d + p) = .ok (x, d + q) := by
  have e2 : Except.bind ((ClassFile.Reader.u1 : ClassFile.Decoder Nat) bs' p) (fun v => f' v.1 bs' v.2) = .ok (x, q) := e
  by_cases hp : p < bs'.size
  · obtain ⟨h2, eb⟩ := ha p hp
    rw [dw_u1v hp] at e2
    have e3 : f' (bs'[p]'hp).toNat bs' (p + 1) = .ok (x, q) := e2
    show Except.bind ((ClassFile.Reader.u1 : ClassFile.Decoder Nat) bs (d + p)) (fun v => f v.1 bs v.2) = .ok (x, d + q)
    rw [dw_u1v h2, eb]
    exact g _ (hok hp) (p + 1) x q e3
  · rw [dw_u1e hp] at e2
    have e3 : (Except.error (ClassFile.HasTruncated.truncated p) : Except ClassFile.DecodeError (β × Nat)) = .ok (x, q) := e2
    cases e3
noncomputable def dw_ops : List Nat := [42, 43, 44, 45, 180, 2, 3, 4, 5, 6, 7, 8, 26, 27, 28, 29, 21, 16, 159, 160, 161, 162, 163, 164, 46, 182, 167, 79, 96, 181, 17, 54, 89, 153, 154, 155, 156, 157, 158, 59, 60, 61, 62, 132, 172, 177, 100, 184, 104, 190, 183, 178, 87, 126, 120, 92, 25, 122, 187, 51, 133, 84, 128, 22, 75, 76, 77, 78, 130, 108, 18, 97, 145, 80, 124, 191, 20, 55, 105, 112, 19, 47, 148, 30, 31, 32, 33, 63, 64, 65, 66, 136, 9, 10, 58, 116, 173]
set_option maxHeartbeats 4000000 in
set_option maxRecDepth 20000 in
theorem dw_opc (ha : dw_ag bs bs' d) {pc pc' p q : Nat} {x : ClassFile.Instr} (hok : ∀ h : p < bs'.size, (bs'[p]'h).toNat ∈ dw_ops) (h : ClassFile.Decoder.instr pc' bs' p = .ok (x, q)) : ClassFile.Decoder.instr pc bs (d + p) = .ok (x, d + q) := by
  unfold ClassFile.Decoder.instr at h ⊢
  refine dw_bindC ha ?_ hok h
  unfold dw_ops
  refine List.forall_mem_cons.mpr ⟨dw_pure _, ?_⟩
  refine List.forall_mem_cons.mpr ⟨dw_pure _, ?_⟩
  refine List.forall_mem_cons.mpr ⟨dw_pure _, ?_⟩
  refine List.forall_mem_cons.mpr ⟨dw_pure _, ?_⟩
  refine List.forall_mem_cons.mpr ⟨dw_bind (dw_u2 ha) (fun _ => dw_pure _), ?_⟩
  refine List.forall_mem_cons.mpr ⟨dw_pure _, ?_⟩
  refine List.forall_mem_cons.mpr ⟨dw_pure _, ?_⟩
  refine List.forall_mem_cons.mpr ⟨dw_pure _, ?_⟩
  refine List.forall_mem_cons.mpr ⟨dw_pure _, ?_⟩
  refine List.forall_mem_cons.mpr ⟨dw_pure _, ?_⟩
  refine List.forall_mem_cons.mpr ⟨dw_pure _, ?_⟩
  refine List.forall_mem_cons.mpr ⟨dw_pure _, ?_⟩
  refine List.forall_mem_cons.mpr ⟨dw_pure _, ?_⟩
  refine List.forall_mem_cons.mpr ⟨dw_pure _, ?_⟩
  refine List.forall_mem_cons.mpr ⟨dw_pure _, ?_⟩
  refine List.forall_mem_cons.mpr ⟨dw_pure _, ?_⟩
  refine List.forall_mem_cons.mpr ⟨dw_bind (dw_u1 ha) (fun _ => dw_pure _), ?_⟩
  refine List.forall_mem_cons.mpr ⟨dw_bind (dw_s1 ha) (fun _ => dw_pure _), ?_⟩
  refine List.forall_mem_cons.mpr ⟨dw_bind (dw_s2 ha) (fun _ => dw_pure _), ?_⟩
  refine List.forall_mem_cons.mpr ⟨dw_bind (dw_s2 ha) (fun _ => dw_pure _), ?_⟩
  refine List.forall_mem_cons.mpr ⟨dw_bind (dw_s2 ha) (fun _ => dw_pure _), ?_⟩
  refine List.forall_mem_cons.mpr ⟨dw_bind (dw_s2 ha) (fun _ => dw_pure _), ?_⟩
  refine List.forall_mem_cons.mpr ⟨dw_bind (dw_s2 ha) (fun _ => dw_pure _), ?_⟩
  refine List.forall_mem_cons.mpr ⟨dw_bind (dw_s2 ha) (fun _ => dw_pure _), ?_⟩
  refine List.forall_mem_cons.mpr ⟨dw_pure _, ?_⟩
  refine List.forall_mem_cons.mpr ⟨dw_bind (dw_u2 ha) (fun _ => dw_pure _), ?_⟩
  refine List.forall_mem_cons.mpr ⟨dw_bind (dw_s2 ha) (fun _ => dw_pure _), ?_⟩
  refine List.forall_mem_cons.mpr ⟨dw_pure _, ?_⟩
  refine List.forall_mem_cons.mpr ⟨dw_pure _, ?_⟩
  refine List.forall_mem_cons.mpr ⟨dw_bind (dw_u2 ha) (fun _ => dw_pure _), ?_⟩
  refine List.forall_mem_cons.mpr ⟨dw_bind (dw_s2 ha) (fun _ => dw_pure _), ?_⟩
  refine List.forall_mem_cons.mpr ⟨dw_bind (dw_u1 ha) (fun _ => dw_pure _), ?_⟩
  refine List.forall_mem_cons.mpr ⟨dw_pure _, ?_⟩
  refine List.forall_mem_cons.mpr ⟨dw_bind (dw_s2 ha) (fun _ => dw_pure _), ?_⟩
  refine List.forall_mem_cons.mpr ⟨dw_bind (dw_s2 ha) (fun _ => dw_pure _), ?_⟩
  refine List.forall_mem_cons.mpr ⟨dw_bind (dw_s2 ha) (fun _ => dw_pure _), ?_⟩
  refine List.forall_mem_cons.mpr ⟨dw_bind (dw_s2 ha) (fun _ => dw_pure _), ?_⟩
  refine List.forall_mem_cons.mpr ⟨dw_bind (dw_s2 ha) (fun _ => dw_pure _), ?_⟩
  refine List.forall_mem_cons.mpr ⟨dw_bind (dw_s2 ha) (fun _ => dw_pure _), ?_⟩
  refine List.forall_mem_cons.mpr ⟨dw_pure _, ?_⟩
  refine List.forall_mem_cons.mpr ⟨dw_pure _, ?_⟩
  refine List.forall_mem_cons.mpr ⟨dw_pure _, ?_⟩
  refine List.forall_mem_cons.mpr ⟨dw_pure _, ?_⟩
  refine List.forall_mem_cons.mpr ⟨dw_bind (dw_u1 ha) (fun _ => dw_bind (dw_s1 ha) (fun _ => dw_pure _)), ?_⟩
  refine List.forall_mem_cons.mpr ⟨dw_pure _, ?_⟩
  refine List.forall_mem_cons.mpr ⟨dw_pure _, ?_⟩
  refine List.forall_mem_cons.mpr ⟨dw_pure _, ?_⟩
  refine List.forall_mem_cons.mpr ⟨dw_bind (dw_u2 ha) (fun _ => dw_pure _), ?_⟩
  refine List.forall_mem_cons.mpr ⟨dw_pure _, ?_⟩
  refine List.forall_mem_cons.mpr ⟨dw_pure _, ?_⟩
  refine List.forall_mem_cons.mpr ⟨dw_bind (dw_u2 ha) (fun _ => dw_pure _), ?_⟩
  refine List.forall_mem_cons.mpr ⟨dw_bind (dw_u2 ha) (fun _ => dw_pure _), ?_⟩
  refine List.forall_mem_cons.mpr ⟨dw_pure _, ?_⟩
  refine List.forall_mem_cons.mpr ⟨dw_pure _, ?_⟩
  refine List.forall_mem_cons.mpr ⟨dw_pure _, ?_⟩
  refine List.forall_mem_cons.mpr ⟨dw_pure _, ?_⟩
  refine List.forall_mem_cons.mpr ⟨dw_bind (dw_u1 ha) (fun _ => dw_pure _), ?_⟩
  refine List.forall_mem_cons.mpr ⟨dw_pure _, ?_⟩
  refine List.forall_mem_cons.mpr ⟨dw_bind (dw_u2 ha) (fun _ => dw_pure _), ?_⟩
  refine List.forall_mem_cons.mpr ⟨dw_pure _, ?_⟩
  refine List.forall_mem_cons.mpr ⟨dw_pure _, ?_⟩
  refine List.forall_mem_cons.mpr ⟨dw_pure _, ?_⟩
  refine List.forall_mem_cons.mpr ⟨dw_pure _, ?_⟩
  refine List.forall_mem_cons.mpr ⟨dw_bind (dw_u1 ha) (fun _ => dw_pure _), ?_⟩
  refine List.forall_mem_cons.mpr ⟨dw_pure _, ?_⟩
  refine List.forall_mem_cons.mpr ⟨dw_pure _, ?_⟩
  refine List.forall_mem_cons.mpr ⟨dw_pure _, ?_⟩
  refine List.forall_mem_cons.mpr ⟨dw_pure _, ?_⟩
  refine List.forall_mem_cons.mpr ⟨dw_pure _, ?_⟩
  refine List.forall_mem_cons.mpr ⟨dw_pure _, ?_⟩
  refine List.forall_mem_cons.mpr ⟨dw_bind (dw_u1 ha) (fun _ => dw_pure _), ?_⟩
  refine List.forall_mem_cons.mpr ⟨dw_pure _, ?_⟩
  refine List.forall_mem_cons.mpr ⟨dw_pure _, ?_⟩
  refine List.forall_mem_cons.mpr ⟨dw_pure _, ?_⟩
  refine List.forall_mem_cons.mpr ⟨dw_pure _, ?_⟩
  refine List.forall_mem_cons.mpr ⟨dw_pure _, ?_⟩
  refine List.forall_mem_cons.mpr ⟨dw_bind (dw_u2 ha) (fun _ => dw_pure _), ?_⟩
  refine List.forall_mem_cons.mpr ⟨dw_bind (dw_u1 ha) (fun _ => dw_pure _), ?_⟩
  refine List.forall_mem_cons.mpr ⟨dw_pure _, ?_⟩
  refine List.forall_mem_cons.mpr ⟨dw_pure _, ?_⟩
  refine List.forall_mem_cons.mpr ⟨dw_bind (dw_u2 ha) (fun _ => dw_pure _), ?_⟩
  refine List.forall_mem_cons.mpr ⟨dw_pure _, ?_⟩
  refine List.forall_mem_cons.mpr ⟨dw_pure _, ?_⟩
  refine List.forall_mem_cons.mpr ⟨dw_pure _, ?_⟩
  refine List.forall_mem_cons.mpr ⟨dw_pure _, ?_⟩
  refine List.forall_mem_cons.mpr ⟨dw_pure _, ?_⟩
  refine List.forall_mem_cons.mpr ⟨dw_pure _, ?_⟩
  refine List.forall_mem_cons.mpr ⟨dw_pure _, ?_⟩
  refine List.forall_mem_cons.mpr ⟨dw_pure _, ?_⟩
  refine List.forall_mem_cons.mpr ⟨dw_pure _, ?_⟩
  refine List.forall_mem_cons.mpr ⟨dw_pure _, ?_⟩
  refine List.forall_mem_cons.mpr ⟨dw_pure _, ?_⟩
  refine List.forall_mem_cons.mpr ⟨dw_pure _, ?_⟩
  refine List.forall_mem_cons.mpr ⟨dw_pure _, ?_⟩
  refine List.forall_mem_cons.mpr ⟨dw_bind (dw_u1 ha) (fun _ => dw_pure _), ?_⟩
  refine List.forall_mem_cons.mpr ⟨dw_pure _, ?_⟩
  refine List.forall_mem_cons.mpr ⟨dw_pure _, ?_⟩
  exact fun _ hm => by cases hm
end DW
theorem dw_ag_of (l : List UInt8) (pc : Nat) : dw_ag ⟨⟨l⟩⟩ ⟨⟨(l.drop pc).take 4⟩⟩ pc := by
  intro p h
  have h' : p < ((l.drop pc).take 4).length := h
  have hl : pc + p < l.length := by
    rw [List.length_take, List.length_drop] at h'
    omega
  refine ⟨hl, ?_⟩
  show l[pc + p]'hl = ((l.drop pc).take 4)[p]'h'
  rw [List.getElem_take, List.getElem_drop]
theorem dw_decode {l : List UInt8} {pc n : Nat} {i : ClassFile.Instr} {b : UInt8} {t : List UInt8} (hb : l.drop pc = b :: t) (hok : b.toNat ∈ dw_ops) (h : decode ⟨⟨(b :: t).take 4⟩⟩ 0 = .ok (i, n)) : decode ⟨⟨l⟩⟩ pc = .ok (i, n) := by
  have ha := dw_ag_of l pc
  rw [hb] at ha
  have hk : ∀ hp : 0 < (ByteArray.mk ⟨(b :: t).take 4⟩).size, ((ByteArray.mk ⟨(b :: t).take 4⟩)[0]'hp).toNat ∈ dw_ops := fun _ => hok
  have h3 : Except.bind ((ClassFile.Decoder.instr 0) ⟨⟨(b :: t).take 4⟩⟩ 0) (fun v => Except.ok (v.1, v.2 - 0)) = Except.ok (i, n) := h
  cases hr : (ClassFile.Decoder.instr 0) ⟨⟨(b :: t).take 4⟩⟩ 0 with
  | error e =>
    rw [hr] at h3
    have h4 : (Except.error e : Except ClassFile.DecodeError (ClassFile.Instr × Nat)) = Except.ok (i, n) := h3
    cases h4
  | ok v =>
    obtain ⟨x, q⟩ := v
    rw [hr] at h3
    have h4 : (Except.ok (x, q - 0) : Except ClassFile.DecodeError (ClassFile.Instr × Nat)) = Except.ok (i, n) := h3
    cases h4
    have h2 := dw_opc (pc := pc) ha hk hr
    show Except.bind ((ClassFile.Decoder.instr pc) ⟨⟨l⟩⟩ pc) (fun v => Except.ok (v.1, v.2 - pc)) = _
    have h5 : (ClassFile.Decoder.instr pc) ⟨⟨l⟩⟩ pc = .ok (i, pc + q) := h2
    rw [h5]
    show (Except.ok (i, pc + q - pc) : Except ClassFile.DecodeError (ClassFile.Instr × Nat)) = Except.ok (i, q - 0)
    rw [Nat.add_sub_cancel_left, Nat.sub_zero]
noncomputable def ez_drp (n : Nat) : List UInt8 → List UInt8 := Nat.rec (motive := fun _ => List UInt8 → List UInt8) (fun l => l) (fun _ ih l => List.rec (motive := fun _ => List UInt8) [] (fun _ t _ => ih t) l) n
theorem ez_drp_eq : ∀ (n : Nat) (l : List UInt8), ez_drp n l = l.drop n
  | 0, _ => rfl
  | _ + 1, [] => rfl
  | n + 1, _ :: t => ez_drp_eq n t
noncomputable def ez_decb0 (bs : ByteArray) (pc : Nat) (i : ClassFile.Instr) : Bool := match decode bs pc with
  | .ok (i', len) => decide (i' = i) && (ez_isSw i || decide (len = ez_ln i))
  | .error _ => false
theorem ez_decb0_ok {bs : ByteArray} {pc : Nat} {i : ClassFile.Instr} (h : ez_decb0 bs pc i = true) : ∃ len, decode bs pc = .ok (i, len) ∧ (ez_isSw i = false → len = ez_ln i) := by
  unfold ez_decb0 at h
  split at h
  · rename_i i' len hq
    simp only [Bool.and_eq_true, Bool.or_eq_true, decide_eq_true_eq] at h
    obtain ⟨rfl, h2⟩ := h
    exact ⟨len, hq, fun z => h2.elim (fun q => by rw [z] at q; cases q) id⟩
  · cases h
noncomputable def ez_opk (b : UInt8) : Bool := dw_ops.any (fun n => Nat.beq n b.toNat)
theorem ez_opk_ok {b : UInt8} (h : ez_opk b = true) : b.toNat ∈ dw_ops := by
  obtain ⟨n, hn, e⟩ := List.any_eq_true.mp h
  rw [← Nat.eq_of_beq_eq_true e]
  exact hn
noncomputable def ez_decb (bs : ByteArray) (pc : Nat) (i : ClassFile.Instr) : Bool := List.rec (motive := fun _ => Bool) (ez_decb0 bs pc i) (fun b t _ => cond (ez_opk b) (ez_decb0 ⟨⟨(b :: t).take 4⟩⟩ 0 i) (ez_decb0 bs pc i)) (ez_drp pc bs.data.toList)
theorem ez_decb_ok {bs : ByteArray} {pc : Nat} {i : ClassFile.Instr} (h : ez_decb bs pc i = true) : ∃ len, decode bs pc = .ok (i, len) ∧ (ez_isSw i = false → len = ez_ln i) := by
  obtain ⟨⟨l⟩⟩ := bs
  cases hw : ez_drp pc l with
  | nil =>
    have e : ez_decb ⟨⟨l⟩⟩ pc i = ez_decb0 ⟨⟨l⟩⟩ pc i := by
      show List.rec (motive := fun _ => Bool) _ _ (ez_drp pc l) = _
      rw [hw]
    rw [e] at h
    exact ez_decb0_ok h
  | cons b t =>
    have e : ez_decb ⟨⟨l⟩⟩ pc i = cond (ez_opk b) (ez_decb0 ⟨⟨(b :: t).take 4⟩⟩ 0 i) (ez_decb0 ⟨⟨l⟩⟩ pc i) := by
      show List.rec (motive := fun _ => Bool) _ _ (ez_drp pc l) = _
      rw [hw]
    rw [e] at h
    rw [ez_drp_eq] at hw
    cases hk : ez_opk b with
    | false =>
      rw [hk] at h
      exact ez_decb0_ok h
    | true =>
      rw [hk] at h
      obtain ⟨len, h1, h2⟩ := ez_decb0_ok (show ez_decb0 ⟨⟨(b :: t).take 4⟩⟩ 0 i = true from h)
      exact ⟨len, dw_decode hw (ez_opk_ok hk) h1, h2⟩
noncomputable def ez_retb (rt : Option FieldType) (i : ClassFile.Instr) (a : Nat) : Bool := match i with
  | .ireturn => decide (rt = if a = 0 then some .int else some .boolean)
  | .lreturn => decide (rt = some .long)
  | .return_ => decide (rt = none)
  | _ => true
theorem ez_retb_ok {rt : Option FieldType} {i : ClassFile.Instr} {a : Nat} (h : ez_retb rt i a = true) : (i = .ireturn → rt = if a = 0 then some .int else some .boolean) ∧ (i = .lreturn → rt = some .long) ∧ (i = .return_ → rt = none) := by
  refine ⟨?_, ?_, ?_⟩ <;> intro z <;> subst z <;> exact of_decide_eq_true h
noncomputable def ez_thb (thr : List (Nat × Nat × Nat)) (bs : ByteArray) (mi pc a : Nat) (i : ClassFile.Instr) : Bool := match ez_isThr i with
  | true => decide ((mi, pc, a) ∈ thr)
  | false => ez_decb bs pc i
noncomputable def ez_ok1b (mi : Nat) (q : ez_C) : Bool := match q with
  | (pc, i, a, b, k, v) => ez_thb thr (bytes mi) mi pc a i && ez_cstb (nm mi).cls tb (ml mi) i v && ez_brb i pc a && ez_jkb i pc a && ez_lkb (nm mi).cls tb ncl ct cn nf ty sta host (decide ((nm mi).name = "<init>")) i a b k && ez_retb (ret mi) i a && (!(ez_cl i k) || (decide (a < nM) && ez_ckb tb ncl cn host (nm mi).cls (nm a) (ml a) (decide (hh a = [])) (ret a) i b k))
noncomputable def ez_okLb (mi : Nat) : List ez_C → Bool
  | [] => true
  | q :: cs => ez_ok1b nf ty sta nm bytes ml ret hh tb ncl nM ct cn host thr mi q && (match cs with
    | [] => true
    | q' :: _ => ez_isSw q.2.1 || ez_isThr q.2.1 || decide (q'.1 = q.1 + ez_ln q.2.1)) && ez_okLb mi cs
theorem ez_ok1b_ok (hs : ∀ w ∈ tb, w ∈ tbl) (hg : ez_gen tbl) (hcls : ∀ a, 0 < a → a ≤ ncl → ez_Cls tbl cl nf ty a (cn a) (ct a)) (hwc : ∀ a, a < nM → ez_wc (nm a) (bytes a) (ml a) (ret a) (hh a) ∈ tbl) (hthr : ∀ q ∈ thr, ez_tk exn nm bytes hh tbl strs q.1 q.2.1 q.2.2) {mi : Nat} {q : ez_C} (h : ez_ok1b nf ty sta nm bytes ml ret hh tb ncl nM ct cn host thr mi q = true) : ez_ok1 cl nf ty exn sta nm bytes ml ret hh tbl strs mi q := by
  obtain ⟨pc, i, a, b, k, v⟩ := q
  unfold ez_ok1b at h
  simp only [Bool.and_eq_true] at h
  obtain ⟨⟨⟨⟨⟨⟨h1, h2⟩, h3⟩, h4⟩, h5⟩, h6⟩, h7⟩ := h
  have t1 : ez_isThr i = true → ez_tk exn nm bytes hh tbl strs mi pc a := fun z => by
    unfold ez_thb at h1
    rw [z] at h1
    exact hthr (mi, pc, a) (of_decide_eq_true h1)
  have t2 : ez_isThr i = false → ∃ len, decode (bytes mi) pc = .ok (i, len) ∧ (ez_isSw i = false → len = ez_ln i) := fun z => by
    unfold ez_thb at h1
    rw [z] at h1
    exact ez_decb_ok h1
  have t3 : ez_cl i k = true → ez_ck (nm mi).cls (nm a) (ez_wc (nm a) (bytes a) (ml a) (ret a) (hh a)) (ml a) (hh a = []) (ret a) tbl cl i b k := fun z => by
    rw [z] at h7
    simp only [Bool.not_true, Bool.false_or, Bool.and_eq_true, decide_eq_true_eq] at h7
    exact ez_ckb_ok cl nf ty tbl tb ncl ct cn host hs hcls (fun z => of_decide_eq_true z) (hwc a h7.1) h7.2
  exact ⟨t1, t2, ez_cstb_ok _ _ hs h2, ez_brb_ok h3, ez_jkb_ok h4, ez_lkb_ok _ _ _ _ _ _ _ _ _ hs hg hcls (fun z => of_decide_eq_true z) h5, ez_retb_ok h6, t3⟩
theorem ez_okLb_ok (hs : ∀ w ∈ tb, w ∈ tbl) (hg : ez_gen tbl) (hcls : ∀ a, 0 < a → a ≤ ncl → ez_Cls tbl cl nf ty a (cn a) (ct a)) (hwc : ∀ a, a < nM → ez_wc (nm a) (bytes a) (ml a) (ret a) (hh a) ∈ tbl) (hthr : ∀ q ∈ thr, ez_tk exn nm bytes hh tbl strs q.1 q.2.1 q.2.2) {mi : Nat} : ∀ cs : List ez_C, ez_okLb nf ty sta nm bytes ml ret hh tb ncl nM ct cn host thr mi cs = true → ez_okL cl nf ty exn sta nm bytes ml ret hh tbl strs mi cs
  | [], _ => trivial
  | q :: cs, h => by
    simp only [ez_okLb, Bool.and_eq_true] at h
    obtain ⟨⟨h1, h2⟩, h3⟩ := h
    refine ⟨ez_ok1b_ok _ _ _ _ _ _ _ _ _ _ _ _ _ _ _ _ _ _ _ hs hg hcls hwc hthr h1, ?_, ez_okLb_ok hs hg hcls hwc hthr cs h3⟩
    rintro q' cs' rfl s1 s2
    simp only [s1, s2, Bool.false_or, decide_eq_true_eq] at h2
    exact h2
end EZU
end
section
/-! PRINTED by wip/tools/gen.py out of the task: the program as the pure machine has it -/
noncomputable def tz_nmL : List (MethodName) := [⟨"PackDesk", "<init>", "()V"⟩,
  ⟨"PackDesk", "feed", "(IIIII)V"⟩,
  ⟨"PackDesk", "end", "(II)I"⟩,
  ⟨"PackDesk", "cut", "(I)Z"⟩,
  ⟨"PackDesk", "flip", "(II)Z"⟩,
  ⟨"PackDesk", "take", "()I"⟩,
  ⟨"PackDesk", "crc", "()I"⟩,
  ⟨"PackDesk", "pack", "()I"⟩,
  ⟨"PackDesk", "parts", "()I"⟩,
  ⟨"PackDesk", "part", "(II)I"⟩,
  ⟨"PackDesk", "blocks", "()I"⟩,
  ⟨"PackDesk", "block", "(II)I"⟩,
  ⟨"PackDesk", "code", "(III)I"⟩,
  ⟨"PackDesk", "unpack", "()I"⟩,
  ⟨"PackDesk", "fault", "(I)I"⟩,
  ⟨"PackDesk", "output", "(I)I"⟩,
  ⟨"PackDesk", "weigh", "(II)V"⟩,
  ⟨"PackDesk", "measure", "(I)I"⟩,
  ⟨"PackDesk", "length", "(I)I"⟩,
  ⟨"PackDesk", "about", "(I)I"⟩,
  ⟨"PackDesk", "putReady", "(II)V"⟩,
  ⟨"PackDesk", "weighedSymbols", "()I"⟩,
  ⟨"PackDesk", "weightedSum", "([I[II)I"⟩,
  ⟨"PackDesk", "kindOf", "([II)I"⟩,
  ⟨"PackDeskModel", "<init>", "()V"⟩,
  ⟨"PackDeskModel", "feed", "(IIIII)V"⟩,
  ⟨"PackDeskModel", "end", "(II)I"⟩,
  ⟨"PackDeskModel", "cut", "(I)Z"⟩,
  ⟨"PackDeskModel", "flip", "(II)Z"⟩,
  ⟨"PackDeskModel", "take", "()I"⟩,
  ⟨"PackDeskModel", "crc", "()I"⟩,
  ⟨"PackDeskModel", "longest", "(I)V"⟩,
  ⟨"PackDeskModel", "findParts", "()V"⟩,
  ⟨"PackDeskModel", "lengthCode", "(I)I"⟩,
  ⟨"PackDeskModel", "backCode", "(I)I"⟩,
  ⟨"PackDeskModel", "putPackage", "(IIIIII)V"⟩,
  ⟨"PackDeskModel", "lengths", "([III[I)V"⟩,
  ⟨"PackDeskModel", "codes", "([II[I)V"⟩,
  ⟨"PackDeskModel", "writeBits", "(II)V"⟩,
  ⟨"PackDeskModel", "costOf", "([I[I)J"⟩,
  ⟨"PackDeskModel", "writeParts", "(III[I[I[I[I)V"⟩,
  ⟨"PackDeskModel", "tellRow", "(II)V"⟩,
  ⟨"PackDeskModel", "tellLengths", "()V"⟩,
  ⟨"PackDeskModel", "restOf", "(I)I"⟩,
  ⟨"PackDeskModel", "writeBlock", "(IIIIZ)V"⟩,
  ⟨"PackDeskModel", "pack", "()I"⟩,
  ⟨"PackDeskModel", "parts", "()I"⟩,
  ⟨"PackDeskModel", "part", "(II)I"⟩,
  ⟨"PackDeskModel", "blocks", "()I"⟩,
  ⟨"PackDeskModel", "block", "(II)I"⟩,
  ⟨"PackDeskModel", "code", "(III)I"⟩,
  ⟨"PackDeskModel", "takeBits", "(I)I"⟩,
  ⟨"PackDeskModel", "wrong", "(I)V"⟩,
  ⟨"PackDeskModel", "give", "(I)V"⟩,
  ⟨"PackDeskModel", "takeSymbol", "([II)I"⟩,
  ⟨"PackDeskModel", "symbolOf", "([IIII)I"⟩,
  ⟨"PackDeskModel", "isWhole", "([II)Z"⟩,
  ⟨"PackDeskModel", "unpackStored", "()V"⟩,
  ⟨"PackDeskModel", "readLengths", "()V"⟩,
  ⟨"PackDeskModel", "unpackCodes", "()V"⟩,
  ⟨"PackDeskModel", "unpack", "()I"⟩,
  ⟨"PackDeskModel", "fault", "(I)I"⟩,
  ⟨"PackDeskModel", "output", "(I)I"⟩,
  ⟨"PackDeskModel", "weigh", "(II)V"⟩,
  ⟨"PackDeskModel", "measure", "(I)I"⟩,
  ⟨"PackDeskModel", "length", "(I)I"⟩,
  ⟨"PackDeskModel", "about", "(I)I"⟩,
  ⟨"PackDesk$BitWriter", "<init>", "(LPackDesk$Row;)V"⟩,
  ⟨"PackDesk$BitWriter", "begin", "()V"⟩,
  ⟨"PackDesk$BitWriter", "missingBehind", "(I)I"⟩,
  ⟨"PackDesk$BitWriter", "putBits", "(II)V"⟩,
  ⟨"PackDesk$BitWriter", "fillByte", "()V"⟩,
  ⟨"PackDesk$BitWriter", "putSymbol", "(LPackDesk$Code;I)V"⟩,
  ⟨"PackDesk$BlockBook", "<init>", "()V"⟩,
  ⟨"PackDesk$BlockBook", "begin", "(I)V"⟩,
  ⟨"PackDesk$BlockBook", "note", "(III)V"⟩,
  ⟨"PackDesk$BlockBook", "fact", "(II)I"⟩,
  ⟨"PackDesk$BlockBook", "keepCodes", "(ILPackDesk$CodeSet;)V"⟩,
  ⟨"PackDesk$BlockBook", "codeLength", "(III)I"⟩,
  ⟨"PackDesk$BlockBook", "has", "(I)Z"⟩,
  ⟨"PackDesk$Code", "<init>", "()V"⟩,
  ⟨"PackDesk$Code", "takeLengths", "([III)V"⟩,
  ⟨"PackDesk$Code", "settle", "()V"⟩,
  ⟨"PackDesk$Code", "isWhole", "()Z"⟩,
  ⟨"PackDesk$Code", "isOneBitAtMost", "()Z"⟩,
  ⟨"PackDesk$Code", "isCoded", "(I)Z"⟩,
  ⟨"PackDesk$Code", "settleSymbol", "(II)V"⟩,
  ⟨"PackDesk$Code", "turned", "(II)I"⟩,
  ⟨"PackDesk$CodeHead", "<init>", "()V"⟩,
  ⟨"PackDesk$CodeHead", "plan", "(LPackDesk$CodeSet;LPackDesk$LengthMaker;)I"⟩,
  ⟨"PackDesk$CodeHead", "write", "(LPackDesk$Code;LPackDesk$BitWriter;)V"⟩,
  ⟨"PackDesk$CodeHead", "toldCount", "([III)I"⟩,
  ⟨"PackDesk$CodeHead", "toldOrder", "([I)I"⟩,
  ⟨"PackDesk$CodeHead", "tellRow", "(I)V"⟩,
  ⟨"PackDesk$CodeHead", "tellAt", "(II)I"⟩,
  ⟨"PackDesk$CodeHead", "sameFrom", "(IIII)I"⟩,
  ⟨"PackDesk$CodeHead", "addSymbol", "(II)V"⟩,
  ⟨"PackDesk$CodeHead", "extraBits", "()I"⟩,
  ⟨"PackDesk$CodeHead", "extraBitsOf", "(I)I"⟩,
  ⟨"PackDesk$CodeSet", "<init>", "()V"⟩,
  ⟨"PackDesk$LengthMaker", "<init>", "()V"⟩,
  ⟨"PackDesk$LengthMaker", "make", "([III[I)V"⟩,
  ⟨"PackDesk$LengthMaker", "gather", "([II)I"⟩,
  ⟨"PackDesk$LengthMaker", "sortByGap", "(II)V"⟩,
  ⟨"PackDesk$LengthMaker", "mergeRounds", "(II)V"⟩,
  ⟨"PackDesk$LengthMaker", "mergeRound", "(III)I"⟩,
  ⟨"PackDesk$LengthMaker", "countDown", "(II[I)V"⟩,
  ⟨"PackDesk$LengthMaker", "lengthen", "([II)V"⟩,
  ⟨"PackDesk$Matcher", "<init>", "()V"⟩,
  ⟨"PackDesk$Matcher", "chain", "(LPackDesk$Row;)V"⟩,
  ⟨"PackDesk$Matcher", "search", "(LPackDesk$Row;II)I"⟩,
  ⟨"PackDesk$Matcher", "sameBytes", "([IIII)I"⟩,
  ⟨"PackDesk$Matcher", "spotOf", "([II)I"⟩,
  ⟨"PackDesk$Packer", "<init>", "(LPackDesk$CodeSet;LPackDesk$Row;LPackDesk$LengthMaker;)V"⟩,
  ⟨"PackDesk$Packer", "run", "(LPackDesk$Row;)V"⟩,
  ⟨"PackDesk$Packer", "split", "(LPackDesk$Row;)V"⟩,
  ⟨"PackDesk$Packer", "countBlock", "(II)V"⟩,
  ⟨"PackDesk$Packer", "countPart", "(II)V"⟩,
  ⟨"PackDesk$Packer", "weighWays", "(I)V"⟩,
  ⟨"PackDesk$Packer", "writeBlock", "(IIILPackDesk$Row;I)V"⟩,
  ⟨"PackDesk$Packer", "writeStored", "(LPackDesk$Row;I)V"⟩,
  ⟨"PackDesk$Packer", "writeParts", "(IILPackDesk$Code;LPackDesk$Code;)V"⟩,
  ⟨"PackDesk$PartList", "<init>", "()V"⟩,
  ⟨"PackDesk$PartList", "has", "(I)Z"⟩,
  ⟨"PackDesk$PartList", "add", "(II)V"⟩,
  ⟨"PackDesk$PartList", "amount", "(I)I"⟩,
  ⟨"PackDesk$PartList", "distance", "(I)I"⟩,
  ⟨"PackDesk$Row", "<init>", "()V"⟩,
  ⟨"PackDesk$Row", "has", "(I)Z"⟩,
  ⟨"PackDesk$Row", "add", "(I)V"⟩,
  ⟨"PackDesk$Row", "become", "(LPackDesk$Row;)V"⟩,
  ⟨"PackDesk$Unpacker", "<init>", "(LPackDesk$CodeSet;LPackDesk$Row;)V"⟩,
  ⟨"PackDesk$Unpacker", "begin", "()V"⟩,
  ⟨"PackDesk$Unpacker", "readBlock", "(LPackDesk$Row;)V"⟩,
  ⟨"PackDesk$Unpacker", "readStored", "(LPackDesk$Row;)V"⟩,
  ⟨"PackDesk$Unpacker", "readHead", "(LPackDesk$Row;)V"⟩,
  ⟨"PackDesk$Unpacker", "readAlphabet", "(LPackDesk$Row;I)V"⟩,
  ⟨"PackDesk$Unpacker", "readRow", "(LPackDesk$Row;I)V"⟩,
  ⟨"PackDesk$Unpacker", "readParts", "(LPackDesk$Row;LPackDesk$Code;LPackDesk$Code;)V"⟩,
  ⟨"PackDesk$Unpacker", "readMatch", "(LPackDesk$Row;ILPackDesk$Code;)V"⟩,
  ⟨"PackDesk$Unpacker", "putByte", "(I)V"⟩,
  ⟨"PackDesk$Unpacker", "takeSymbol", "(LPackDesk$Row;LPackDesk$Code;)I"⟩,
  ⟨"PackDesk$Unpacker", "takeBits", "(LPackDesk$Row;I)I"⟩,
  ⟨"PackDesk$Unpacker", "fail", "(I)V"⟩,
  ⟨"PackDeskLaw", "take", "(LPackDesk;[J)I"⟩,
  ⟨"PackDeskLaw", "unpack", "(LPackDesk;[J)I"⟩,
  ⟨"PackDeskLaw", "weigh", "(LPackDesk;II)I"⟩,
  ⟨"PackDeskLaw", "measure", "(LPackDesk;I[J)I"⟩,
  ⟨"java/util/Arrays", "fill", "([II)V"⟩,
  ⟨"PackDeskLaw", "law", "([I)Z"⟩]
noncomputable def tz_nm (n : Nat) : MethodName := tz_nmL.getD n ⟨"", "", ""⟩
noncomputable def tz_byL : List (ByteArray) := [prog_1_method_1_code,
  prog_1_method_2_code,
  prog_1_method_3_code,
  prog_1_method_4_code,
  prog_1_method_5_code,
  prog_1_method_6_code,
  prog_1_method_7_code,
  prog_1_method_8_code,
  prog_1_method_9_code,
  prog_1_method_10_code,
  prog_1_method_11_code,
  prog_1_method_12_code,
  prog_1_method_13_code,
  prog_1_method_14_code,
  prog_1_method_15_code,
  prog_1_method_16_code,
  prog_1_method_17_code,
  prog_1_method_18_code,
  prog_1_method_19_code,
  prog_1_method_20_code,
  prog_1_method_21_code,
  prog_1_method_22_code,
  prog_1_method_23_code,
  prog_1_method_24_code,
  prog_14_method_1_code,
  prog_14_method_3_code,
  prog_14_method_4_code,
  prog_14_method_5_code,
  prog_14_method_6_code,
  prog_14_method_7_code,
  prog_14_method_8_code,
  prog_14_method_9_code,
  prog_14_method_10_code,
  prog_14_method_11_code,
  prog_14_method_12_code,
  prog_14_method_13_code,
  prog_14_method_14_code,
  prog_14_method_15_code,
  prog_14_method_16_code,
  prog_14_method_17_code,
  prog_14_method_18_code,
  prog_14_method_19_code,
  prog_14_method_20_code,
  prog_14_method_21_code,
  prog_14_method_22_code,
  prog_14_method_23_code,
  prog_14_method_24_code,
  prog_14_method_25_code,
  prog_14_method_26_code,
  prog_14_method_27_code,
  prog_14_method_28_code,
  prog_14_method_29_code,
  prog_14_method_30_code,
  prog_14_method_31_code,
  prog_14_method_32_code,
  prog_14_method_33_code,
  prog_14_method_34_code,
  prog_14_method_35_code,
  prog_14_method_36_code,
  prog_14_method_37_code,
  prog_14_method_38_code,
  prog_14_method_39_code,
  prog_14_method_40_code,
  prog_14_method_41_code,
  prog_14_method_42_code,
  prog_14_method_43_code,
  prog_14_method_44_code,
  prog_2_method_1_code,
  prog_2_method_2_code,
  prog_2_method_3_code,
  prog_2_method_4_code,
  prog_2_method_5_code,
  prog_2_method_6_code,
  prog_3_method_1_code,
  prog_3_method_2_code,
  prog_3_method_3_code,
  prog_3_method_4_code,
  prog_3_method_5_code,
  prog_3_method_6_code,
  prog_3_method_7_code,
  prog_4_method_1_code,
  prog_4_method_2_code,
  prog_4_method_3_code,
  prog_4_method_4_code,
  prog_4_method_5_code,
  prog_4_method_6_code,
  prog_4_method_7_code,
  prog_4_method_8_code,
  prog_5_method_1_code,
  prog_5_method_2_code,
  prog_5_method_3_code,
  prog_5_method_4_code,
  prog_5_method_5_code,
  prog_5_method_6_code,
  prog_5_method_7_code,
  prog_5_method_8_code,
  prog_5_method_9_code,
  prog_5_method_10_code,
  prog_5_method_11_code,
  prog_6_method_1_code,
  prog_7_method_1_code,
  prog_7_method_2_code,
  prog_7_method_3_code,
  prog_7_method_4_code,
  prog_7_method_5_code,
  prog_7_method_6_code,
  prog_7_method_7_code,
  prog_7_method_8_code,
  prog_8_method_1_code,
  prog_8_method_2_code,
  prog_8_method_3_code,
  prog_8_method_4_code,
  prog_8_method_5_code,
  prog_9_method_1_code,
  prog_9_method_2_code,
  prog_9_method_3_code,
  prog_9_method_4_code,
  prog_9_method_5_code,
  prog_9_method_6_code,
  prog_9_method_7_code,
  prog_9_method_8_code,
  prog_9_method_9_code,
  prog_10_method_1_code,
  prog_10_method_2_code,
  prog_10_method_3_code,
  prog_10_method_4_code,
  prog_10_method_5_code,
  prog_11_method_1_code,
  prog_11_method_2_code,
  prog_11_method_3_code,
  prog_11_method_4_code,
  prog_12_method_1_code,
  prog_12_method_2_code,
  prog_12_method_3_code,
  prog_12_method_4_code,
  prog_12_method_5_code,
  prog_12_method_6_code,
  prog_12_method_7_code,
  prog_12_method_8_code,
  prog_12_method_9_code,
  prog_12_method_10_code,
  prog_12_method_11_code,
  prog_12_method_12_code,
  prog_12_method_13_code,
  method_3_code,
  method_4_code,
  method_5_code,
  method_6_code,
  prog_24_method_103_code,
  code]
noncomputable def tz_by (n : Nat) : ByteArray := tz_byL.getD n ⟨#[]⟩
noncomputable def tz_mlL : List (Nat) := [4,
  6,
  5,
  2,
  3,
  1,
  3,
  1,
  1,
  4,
  1,
  3,
  4,
  2,
  2,
  2,
  3,
  2,
  2,
  2,
  4,
  3,
  5,
  4,
  1,
  8,
  5,
  2,
  3,
  2,
  4,
  5,
  4,
  3,
  3,
  8,
  13,
  7,
  4,
  6,
  12,
  3,
  5,
  1,
  17,
  6,
  1,
  3,
  1,
  3,
  4,
  4,
  2,
  2,
  7,
  6,
  4,
  5,
  10,
  6,
  4,
  2,
  2,
  3,
  5,
  2,
  2,
  2,
  1,
  2,
  3,
  1,
  3,
  1,
  2,
  4,
  3,
  4,
  4,
  2,
  1,
  5,
  4,
  3,
  1,
  2,
  4,
  4,
  1,
  3,
  4,
  4,
  2,
  4,
  5,
  6,
  3,
  3,
  2,
  2,
  1,
  10,
  5,
  6,
  5,
  9,
  8,
  4,
  1,
  4,
  10,
  5,
  3,
  4,
  6,
  7,
  4,
  5,
  8,
  7,
  4,
  10,
  1,
  2,
  3,
  2,
  2,
  1,
  2,
  2,
  2,
  3,
  1,
  3,
  5,
  5,
  4,
  10,
  6,
  8,
  2,
  9,
  6,
  2,
  3,
  3,
  4,
  4,
  4,
  7]
noncomputable def tz_ml (n : Nat) : Nat := tz_mlL.getD n 0
noncomputable def tz_reL : List (Option FieldType) := [none,
  none,
  (some .int),
  (some .boolean),
  (some .boolean),
  (some .int),
  (some .int),
  (some .int),
  (some .int),
  (some .int),
  (some .int),
  (some .int),
  (some .int),
  (some .int),
  (some .int),
  (some .int),
  none,
  (some .int),
  (some .int),
  (some .int),
  none,
  (some .int),
  (some .int),
  (some .int),
  none,
  none,
  (some .int),
  (some .boolean),
  (some .boolean),
  (some .int),
  (some .int),
  none,
  none,
  (some .int),
  (some .int),
  none,
  none,
  none,
  none,
  (some .long),
  none,
  none,
  none,
  (some .int),
  none,
  (some .int),
  (some .int),
  (some .int),
  (some .int),
  (some .int),
  (some .int),
  (some .int),
  none,
  none,
  (some .int),
  (some .int),
  (some .boolean),
  none,
  none,
  none,
  (some .int),
  (some .int),
  (some .int),
  none,
  (some .int),
  (some .int),
  (some .int),
  none,
  none,
  (some .int),
  none,
  none,
  none,
  none,
  none,
  none,
  (some .int),
  none,
  (some .int),
  (some .boolean),
  none,
  none,
  none,
  (some .boolean),
  (some .boolean),
  (some .boolean),
  none,
  (some .int),
  none,
  (some .int),
  none,
  (some .int),
  (some .int),
  none,
  (some .int),
  (some .int),
  none,
  (some .int),
  (some .int),
  none,
  none,
  none,
  (some .int),
  none,
  none,
  (some .int),
  none,
  none,
  none,
  none,
  (some .int),
  (some .int),
  (some .int),
  none,
  none,
  none,
  none,
  none,
  none,
  none,
  none,
  none,
  none,
  (some .boolean),
  none,
  (some .int),
  (some .int),
  none,
  (some .boolean),
  none,
  none,
  none,
  none,
  none,
  none,
  none,
  none,
  none,
  none,
  none,
  none,
  (some .int),
  (some .int),
  none,
  (some .int),
  (some .int),
  (some .int),
  (some .int),
  none,
  (some .boolean)]
noncomputable def tz_re (n : Nat) : Option FieldType := tz_reL.getD n none
noncomputable def tz_hhL : List (Nat × List (Nat × Nat × Nat × Nat)) := [(144, [(0, 8, 11, 13)]), (145, [(0, 8, 11, 18)]), (146, [(0, 6, 9, 24), (0, 6, 12, 18)]), (147, [(0, 9, 12, 18), (0, 9, 15, 13)])]
noncomputable def tz_hh (n : Nat) : List (Nat × Nat × Nat × Nat) := (tz_hhL.lookup n).getD []
noncomputable def tz_ex (n : Nat) : String := match n with
  | 1 => "java/lang/IllegalStateException"
  | 2 => "java/lang/IllegalArgumentException"
  | _ => "java/lang/IndexOutOfBoundsException"
noncomputable def tz_T1 : u_T := fun k => match k with
  | 0 => ("PackDesk", "tape", "LPackDesk$Row;", true)
  | 1 => ("PackDesk", "output", "LPackDesk$Row;", true)
  | 2 => ("PackDesk", "ready", "[I", true)
  | 3 => ("PackDesk", "weights", "[I", true)
  | 4 => ("PackDesk", "scaleLengths", "[I", true)
  | 5 => ("PackDesk", "maker", "LPackDesk$LengthMaker;", true)
  | 6 => ("PackDesk", "packer", "LPackDesk$Packer;", true)
  | _ => ("PackDesk", "unpacker", "LPackDesk$Unpacker;", true)
noncomputable def tz_T2 : u_T := fun k => match k with
  | 0 => ("PackDeskModel", "thrown", "I", false)
  | 1 => ("PackDeskModel", "tape", "[B", true)
  | 2 => ("PackDeskModel", "output", "[B", true)
  | 3 => ("PackDeskModel", "ready", "[B", true)
  | 4 => ("PackDeskModel", "packed", "[B", true)
  | 5 => ("PackDeskModel", "got", "[B", true)
  | 6 => ("PackDeskModel", "taped", "I", false)
  | 7 => ("PackDeskModel", "outs", "I", false)
  | 8 => ("PackDeskModel", "partMany", "[I", true)
  | 9 => ("PackDeskModel", "partBack", "[I", true)
  | 10 => ("PackDeskModel", "partByte", "[I", true)
  | 11 => ("PackDeskModel", "partBlock", "[I", true)
  | 12 => ("PackDeskModel", "previous", "[I", true)
  | 13 => ("PackDeskModel", "lastPair", "[I", true)
  | 14 => ("PackDeskModel", "parts", "I", false)
  | 15 => ("PackDeskModel", "blocks", "I", false)
  | 16 => ("PackDeskModel", "bits", "I", false)
  | 17 => ("PackDeskModel", "found", "I", false)
  | 18 => ("PackDeskModel", "foundBack", "I", false)
  | 19 => ("PackDeskModel", "blockWay", "[I", true)
  | 20 => ("PackDeskModel", "blockParts", "[I", true)
  | 21 => ("PackDeskModel", "blockBytes", "[I", true)
  | 22 => ("PackDeskModel", "blockBits", "[I", true)
  | 23 => ("PackDeskModel", "blockFixed", "[I", true)
  | 24 => ("PackDeskModel", "blockDynamic", "[I", true)
  | 25 => ("PackDeskModel", "keptLit", "[I", true)
  | 26 => ("PackDeskModel", "keptBack", "[I", true)
  | 27 => ("PackDeskModel", "keptRow", "[I", true)
  | 28 => ("PackDeskModel", "lengthBase", "[I", true)
  | 29 => ("PackDeskModel", "lengthExtra", "[I", true)
  | 30 => ("PackDeskModel", "backBase", "[I", true)
  | 31 => ("PackDeskModel", "backExtra", "[I", true)
  | 32 => ("PackDeskModel", "orderOf", "[I", true)
  | 33 => ("PackDeskModel", "often", "[I", true)
  | 34 => ("PackDeskModel", "backOften", "[I", true)
  | 35 => ("PackDeskModel", "rowOften", "[I", true)
  | 36 => ("PackDeskModel", "litLength", "[I", true)
  | 37 => ("PackDeskModel", "backLength", "[I", true)
  | 38 => ("PackDeskModel", "rowLength", "[I", true)
  | 39 => ("PackDeskModel", "litCode", "[I", true)
  | 40 => ("PackDeskModel", "backCodes", "[I", true)
  | 41 => ("PackDeskModel", "rowCode", "[I", true)
  | 42 => ("PackDeskModel", "fixLength", "[I", true)
  | 43 => ("PackDeskModel", "fixCode", "[I", true)
  | 44 => ("PackDeskModel", "fixBack", "[I", true)
  | 45 => ("PackDeskModel", "fixBackCode", "[I", true)
  | 46 => ("PackDeskModel", "symbol", "[I", true)
  | 47 => ("PackDeskModel", "weight", "[I", true)
  | 48 => ("PackDeskModel", "weightNew", "[I", true)
  | 49 => ("PackDeskModel", "holds", "[I", true)
  | 50 => ("PackDeskModel", "holdsNew", "[I", true)
  | 51 => ("PackDeskModel", "lengthMany", "[I", true)
  | 52 => ("PackDeskModel", "nextCode", "[I", true)
  | 53 => ("PackDeskModel", "rowTold", "[I", true)
  | 54 => ("PackDeskModel", "rowRest", "[I", true)
  | 55 => ("PackDeskModel", "rowOf", "[I", true)
  | 56 => ("PackDeskModel", "rowMany", "I", false)
  | 57 => ("PackDeskModel", "litMany", "I", false)
  | 58 => ("PackDeskModel", "backMany", "I", false)
  | 59 => ("PackDeskModel", "bit", "I", false)
  | 60 => ("PackDeskModel", "gotMany", "I", false)
  | 61 => ("PackDeskModel", "unpackFault", "I", false)
  | 62 => ("PackDeskModel", "fault", "I", false)
  | 63 => ("PackDeskModel", "faultPlace", "I", false)
  | 64 => ("PackDeskModel", "takenLit", "[I", true)
  | 65 => ("PackDeskModel", "takenBack", "[I", true)
  | 66 => ("PackDeskModel", "takenRow", "[I", true)
  | 67 => ("PackDeskModel", "taken", "[I", true)
  | 68 => ("PackDeskModel", "weights", "[I", true)
  | _ => ("PackDeskModel", "scale", "[I", true)
noncomputable def tz_T3 : u_T := fun k => match k with
  | 0 => ("PackDesk$BitWriter", "row", "LPackDesk$Row;", true)
  | 1 => ("PackDesk$BitWriter", "held", "I", false)
  | _ => ("PackDesk$BitWriter", "heldBits", "I", false)
noncomputable def tz_T4 : u_T := fun k => match k with
  | 0 => ("PackDesk$BlockBook", "facts", "[I", true)
  | 1 => ("PackDesk$BlockBook", "codeLengths", "[I", true)
  | _ => ("PackDesk$BlockBook", "count", "I", false)
noncomputable def tz_T5 : u_T := fun k => match k with
  | 0 => ("PackDesk$Code", "lengths", "[I", true)
  | 1 => ("PackDesk$Code", "words", "[I", true)
  | 2 => ("PackDesk$Code", "counts", "[I", true)
  | 3 => ("PackDesk$Code", "inTurn", "[I", true)
  | 4 => ("PackDesk$Code", "coded", "I", false)
  | 5 => ("PackDesk$Code", "nextWords", "[I", true)
  | _ => ("PackDesk$Code", "nextPlaces", "[I", true)
noncomputable def tz_T6 : u_T := fun k => match k with
  | 0 => ("PackDesk$CodeHead", "row", "[I", true)
  | 1 => ("PackDesk$CodeHead", "literals", "I", false)
  | 2 => ("PackDesk$CodeHead", "distances", "I", false)
  | 3 => ("PackDesk$CodeHead", "symbols", "[I", true)
  | 4 => ("PackDesk$CodeHead", "extras", "[I", true)
  | 5 => ("PackDesk$CodeHead", "symbolCount", "I", false)
  | 6 => ("PackDesk$CodeHead", "comings", "[I", true)
  | _ => ("PackDesk$CodeHead", "orderTold", "I", false)
noncomputable def tz_T7 : u_T := fun k => match k with
  | 0 => ("PackDesk$CodeSet", "fixedLiterals", "LPackDesk$Code;", true)
  | 1 => ("PackDesk$CodeSet", "fixedDistances", "LPackDesk$Code;", true)
  | 2 => ("PackDesk$CodeSet", "literals", "LPackDesk$Code;", true)
  | 3 => ("PackDesk$CodeSet", "distances", "LPackDesk$Code;", true)
  | _ => ("PackDesk$CodeSet", "alphabet", "LPackDesk$Code;", true)
noncomputable def tz_T8 : u_T := fun k => match k with
  | 0 => ("PackDesk$LengthMaker", "keys", "[I", true)
  | 1 => ("PackDesk$LengthMaker", "sums", "[J", true)
  | 2 => ("PackDesk$LengthMaker", "pairs", "[J", true)
  | _ => ("PackDesk$LengthMaker", "alone", "[I", true)
noncomputable def tz_T9 : u_T := fun k => match k with
  | 0 => ("PackDesk$Matcher", "latest", "[I", true)
  | 1 => ("PackDesk$Matcher", "earlier", "[I", true)
  | _ => ("PackDesk$Matcher", "distance", "I", false)
noncomputable def tz_T10 : u_T := fun k => match k with
  | 0 => ("PackDesk$Packer", "made", "LPackDesk$Row;", true)
  | 1 => ("PackDesk$Packer", "partList", "LPackDesk$PartList;", true)
  | 2 => ("PackDesk$Packer", "book", "LPackDesk$BlockBook;", true)
  | 3 => ("PackDesk$Packer", "codes", "LPackDesk$CodeSet;", true)
  | 4 => ("PackDesk$Packer", "maker", "LPackDesk$LengthMaker;", true)
  | 5 => ("PackDesk$Packer", "writer", "LPackDesk$BitWriter;", true)
  | 6 => ("PackDesk$Packer", "matcher", "LPackDesk$Matcher;", true)
  | 7 => ("PackDesk$Packer", "head", "LPackDesk$CodeHead;", true)
  | 8 => ("PackDesk$Packer", "literalComings", "[I", true)
  | 9 => ("PackDesk$Packer", "distanceComings", "[I", true)
  | 10 => ("PackDesk$Packer", "extraBits", "I", false)
  | _ => ("PackDesk$Packer", "bytesTold", "I", false)
noncomputable def tz_T11 : u_T := fun k => match k with
  | 0 => ("PackDesk$PartList", "entries", "[I", true)
  | _ => ("PackDesk$PartList", "count", "I", false)
noncomputable def tz_T12 : u_T := fun k => match k with
  | 0 => ("PackDesk$Row", "bytes", "[I", true)
  | _ => ("PackDesk$Row", "size", "I", false)
noncomputable def tz_T13 : u_T := fun k => match k with
  | 0 => ("PackDesk$Unpacker", "made", "LPackDesk$Row;", true)
  | 1 => ("PackDesk$Unpacker", "isDone", "Z", false)
  | 2 => ("PackDesk$Unpacker", "faultMet", "I", false)
  | 3 => ("PackDesk$Unpacker", "faultPlace", "I", false)
  | 4 => ("PackDesk$Unpacker", "codes", "LPackDesk$CodeSet;", true)
  | 5 => ("PackDesk$Unpacker", "row", "[I", true)
  | _ => ("PackDesk$Unpacker", "position", "I", false)
noncomputable def tz_cnL : List String := ["", "PackDesk", "PackDeskModel", "PackDesk$BitWriter", "PackDesk$BlockBook", "PackDesk$Code", "PackDesk$CodeHead", "PackDesk$CodeSet", "PackDesk$LengthMaker", "PackDesk$Matcher", "PackDesk$Packer", "PackDesk$PartList", "PackDesk$Row", "PackDesk$Unpacker"]
noncomputable def tz_cn (n : Nat) : String := tz_cnL.getD n ""
noncomputable def tz_nfL : List Nat := [0, 8, 70, 3, 3, 7, 8, 5, 4, 3, 12, 2, 2, 7]
noncomputable def tz_nf (n : Nat) : Nat := tz_nfL.getD n 0
noncomputable def tz_ct (n : Nat) : u_T := match n with
  | 1 => tz_T1
  | 2 => tz_T2
  | 3 => tz_T3
  | 4 => tz_T4
  | 5 => tz_T5
  | 6 => tz_T6
  | 7 => tz_T7
  | 8 => tz_T8
  | 9 => tz_T9
  | 10 => tz_T10
  | 11 => tz_T11
  | 12 => tz_T12
  | _ => tz_T13
noncomputable def tz_cl : List vw_C := [(tz_cn 1, tz_ct 1, tz_nf 1), (tz_cn 2, tz_ct 2, tz_nf 2), (tz_cn 3, tz_ct 3, tz_nf 3), (tz_cn 4, tz_ct 4, tz_nf 4), (tz_cn 5, tz_ct 5, tz_nf 5), (tz_cn 6, tz_ct 6, tz_nf 6), (tz_cn 7, tz_ct 7, tz_nf 7), (tz_cn 8, tz_ct 8, tz_nf 8), (tz_cn 9, tz_ct 9, tz_nf 9), (tz_cn 10, tz_ct 10, tz_nf 10), (tz_cn 11, tz_ct 11, tz_nf 11), (tz_cn 12, tz_ct 12, tz_nf 12), (tz_cn 13, tz_ct 13, tz_nf 13)]
noncomputable def tz_tyL : List (List FieldType) := [[], [.object "PackDesk$Row", .object "PackDesk$Row", .array .int, .array .int, .array .int, .object "PackDesk$LengthMaker", .object "PackDesk$Packer", .object "PackDesk$Unpacker"],
  [.int, .array .byte, .array .byte, .array .byte, .array .byte, .array .byte, .int, .int, .array .int, .array .int, .array .int, .array .int, .array .int, .array .int, .int, .int, .int, .int, .int, .array .int, .array .int, .array .int, .array .int, .array .int, .array .int, .array .int, .array .int, .array .int, .array .int, .array .int, .array .int, .array .int, .array .int, .array .int, .array .int, .array .int, .array .int, .array .int, .array .int, .array .int, .array .int, .array .int, .array .int, .array .int, .array .int, .array .int, .array .int, .array .int, .array .int, .array .int, .array .int, .array .int, .array .int, .array .int, .array .int, .array .int, .int, .int, .int, .int, .int, .int, .int, .int, .array .int, .array .int, .array .int, .array .int, .array .int, .array .int],
  [.object "PackDesk$Row", .int, .int],
  [.array .int, .array .int, .int],
  [.array .int, .array .int, .array .int, .array .int, .int, .array .int, .array .int],
  [.array .int, .int, .int, .array .int, .array .int, .int, .array .int, .int],
  [.object "PackDesk$Code", .object "PackDesk$Code", .object "PackDesk$Code", .object "PackDesk$Code", .object "PackDesk$Code"],
  [.array .int, .array .long, .array .long, .array .int],
  [.array .int, .array .int, .int],
  [.object "PackDesk$Row", .object "PackDesk$PartList", .object "PackDesk$BlockBook", .object "PackDesk$CodeSet", .object "PackDesk$LengthMaker", .object "PackDesk$BitWriter", .object "PackDesk$Matcher", .object "PackDesk$CodeHead", .array .int, .array .int, .int, .int],
  [.array .int, .int],
  [.array .int, .int],
  [.object "PackDesk$Row", .boolean, .int, .int, .object "PackDesk$CodeSet", .array .int, .int]]
noncomputable def tz_ty (n k : Nat) : FieldType := (tz_tyL.getD n []).getD k .int
noncomputable def tz_staL : List (String × String × String) := [("", "", ""), ("PackDesk", "CRC_HALVES", "[I"), ("PackDesk", "LENGTH_BASE", "[I"), ("PackDesk", "DISTANCE_BASE", "[I"), ("PackDesk", "LENGTH_EXTRA", "[I"), ("PackDesk", "DISTANCE_EXTRA", "[I"), ("PackDesk$LengthMaker", "GAPS", "[I"), ("PackDesk", "REPEAT_BASE", "[I"), ("PackDesk", "ALPHABET_ORDER", "[I"), ("PackDesk", "REPEAT_EXTRA", "[I"), ("PackDesk$BlockBook", "CODE_FROM", "[I"), ("PackDesk$BlockBook", "CODE_SYMBOLS", "[I")]
noncomputable def tz_sta (n : Nat) : String × String × String := tz_staL.getD n ("PackDesk", "CRC_HALVES", "[I")
noncomputable def tz_str : List (String × Nat × String) := [("PackDesk", 84, "the output has more bytes than a tape can have"), ("PackDesk$Unpacker", 166, "the bytes can't be unpacked"), ("PackDesk", 154, "the symbol is not 0 .. 63"), ("PackDesk", 160, "the weight is not 0 .. 1000000"), ("PackDesk", 163, "the limit is not 1 .. 15"), ("PackDesk", 169, "more symbols have weights than codes of that length are")]
noncomputable def tz_hnL : List ((Nat × Nat × Nat) × (Nat × Nat)) := [((144, 3, 1), (12, 2)), ((145, 3, 2), (12, 2)), ((146, 3, 2), (13, 3)), ((146, 3, 3), (10, 3)), ((147, 4, 1), (16, 3)), ((147, 4, 2), (13, 3))]
noncomputable def tz_hn (mi pc x : Nat) : Option (Nat × Nat) := match tz_hh mi with
  | [] => none
  | _ :: _ => some ((tz_hnL.lookup (mi, pc, x)).getD (0, 0))
noncomputable def tz_thr : List (Nat × Nat × Nat) := [(5, 13, 1), (16, 10, 3), (16, 30, 2), (17, 11, 2), (17, 31, 1), (143, 18, 2)]
/-- the words of PackDesk, and their places -/
noncomputable def tz_tb0 : List Cond := [.methodLink "PackDesk" 3 ⟨"java/lang/Object", "<init>", "()V"⟩,
  .instanceMethod ⟨"java/lang/Object", "<init>", "()V"⟩,
  .classLink "PackDesk" 9 "PackDesk$Row",
  .instantiable "PackDesk$Row" 2,
  .initialized "PackDesk$Row",
  .methodLinkNest "PackDesk" 11 ⟨"PackDesk$Row", "<init>", "()V"⟩ "PackDesk",
  .instanceMethod ⟨"PackDesk$Row", "<init>", "()V"⟩,
  .fieldLink "PackDesk" 12 "PackDesk" "tape" "LPackDesk$Row;",
  .fieldLink "PackDesk" 16 "PackDesk" "output" "LPackDesk$Row;",
  .arrayClass .int,
  .fieldLink "PackDesk" 19 "PackDesk" "ready" "[I",
  .fieldLink "PackDesk" 23 "PackDesk" "weights" "[I",
  .fieldLink "PackDesk" 26 "PackDesk" "scaleLengths" "[I",
  .classLink "PackDesk" 29 "PackDesk$LengthMaker",
  .instantiable "PackDesk$LengthMaker" 4,
  .initialized "PackDesk$LengthMaker",
  .methodLinkNest "PackDesk" 31 ⟨"PackDesk$LengthMaker", "<init>", "()V"⟩ "PackDesk",
  .instanceMethod ⟨"PackDesk$LengthMaker", "<init>", "()V"⟩,
  .classLink "PackDesk" 32 "PackDesk$CodeSet",
  .instantiable "PackDesk$CodeSet" 5,
  .initialized "PackDesk$CodeSet",
  .methodLink "PackDesk" 34 ⟨"PackDesk$CodeSet", "<init>", "()V"⟩,
  .instanceMethod ⟨"PackDesk$CodeSet", "<init>", "()V"⟩,
  .fieldLink "PackDesk" 35 "PackDesk" "maker" "LPackDesk$LengthMaker;",
  .classLink "PackDesk" 39 "PackDesk$Packer",
  .instantiable "PackDesk$Packer" 12,
  .initialized "PackDesk$Packer",
  .methodLink "PackDesk" 41 ⟨"PackDesk$Packer", "<init>", "(LPackDesk$CodeSet;LPackDesk$Row;LPackDesk$LengthMaker;)V"⟩,
  .instanceMethod ⟨"PackDesk$Packer", "<init>", "(LPackDesk$CodeSet;LPackDesk$Row;LPackDesk$LengthMaker;)V"⟩,
  .fieldLink "PackDesk" 44 "PackDesk" "packer" "LPackDesk$Packer;",
  .classLink "PackDesk" 48 "PackDesk$Unpacker",
  .instantiable "PackDesk$Unpacker" 7,
  .initialized "PackDesk$Unpacker",
  .methodLink "PackDesk" 50 ⟨"PackDesk$Unpacker", "<init>", "(LPackDesk$CodeSet;LPackDesk$Row;)V"⟩,
  .instanceMethod ⟨"PackDesk$Unpacker", "<init>", "(LPackDesk$CodeSet;LPackDesk$Row;)V"⟩,
  .fieldLink "PackDesk" 53 "PackDesk" "unpacker" "LPackDesk$Unpacker;",
  .methodLink "PackDesk" 57 ⟨"PackDesk", "putReady", "(II)V"⟩,
  .initialized "PackDesk",
  .instanceMethod ⟨"PackDesk", "putReady", "(II)V"⟩,
  .selects "PackDesk" ⟨"PackDesk", "putReady", "(II)V"⟩ ⟨"PackDesk", "putReady", "(II)V"⟩,
  .fieldLink "PackDesk" 61 "PackDesk$Row" "size" "I",
  .methodLink "PackDesk" 65 ⟨"PackDesk$Row", "add", "(I)V"⟩,
  .instanceMethod ⟨"PackDesk$Row", "add", "(I)V"⟩,
  .selects "PackDesk$Row" ⟨"PackDesk$Row", "add", "(I)V"⟩ ⟨"PackDesk$Row", "add", "(I)V"⟩,
  .methodLink "PackDesk" 69 ⟨"java/util/Arrays", "fill", "([II)V"⟩,
  .initialized "java/util/Arrays",
  .static ⟨"java/util/Arrays", "fill", "([II)V"⟩,
  .methodLink "PackDesk" 75 ⟨"PackDesk$Row", "has", "(I)Z"⟩,
  .instanceMethod ⟨"PackDesk$Row", "has", "(I)Z"⟩,
  .selects "PackDesk$Row" ⟨"PackDesk$Row", "has", "(I)Z"⟩ ⟨"PackDesk$Row", "has", "(I)Z"⟩,
  .fieldLink "PackDesk" 79 "PackDesk$Row" "bytes" "[I",
  .methodLink "PackDesk" 89 ⟨"PackDesk$Row", "become", "(LPackDesk$Row;)V"⟩,
  .instanceMethod ⟨"PackDesk$Row", "become", "(LPackDesk$Row;)V"⟩,
  .selects "PackDesk$Row" ⟨"PackDesk$Row", "become", "(LPackDesk$Row;)V"⟩ ⟨"PackDesk$Row", "become", "(LPackDesk$Row;)V"⟩,
  .fieldLink "PackDesk" 93 "PackDesk" "CRC_HALVES" "[I",
  .methodLink "PackDesk" 96 ⟨"PackDesk$Packer", "run", "(LPackDesk$Row;)V"⟩,
  .instanceMethod ⟨"PackDesk$Packer", "run", "(LPackDesk$Row;)V"⟩,
  .selects "PackDesk$Packer" ⟨"PackDesk$Packer", "run", "(LPackDesk$Row;)V"⟩ ⟨"PackDesk$Packer", "run", "(LPackDesk$Row;)V"⟩,
  .fieldLink "PackDesk" 99 "PackDesk$Packer" "made" "LPackDesk$Row;",
  .fieldLink "PackDesk" 102 "PackDesk$Packer" "partList" "LPackDesk$PartList;",
  .fieldLink "PackDesk" 106 "PackDesk$PartList" "count" "I",
  .methodLink "PackDesk" 111 ⟨"PackDesk$PartList", "has", "(I)Z"⟩,
  .initialized "PackDesk$PartList",
  .instanceMethod ⟨"PackDesk$PartList", "has", "(I)Z"⟩,
  .selects "PackDesk$PartList" ⟨"PackDesk$PartList", "has", "(I)Z"⟩ ⟨"PackDesk$PartList", "has", "(I)Z"⟩,
  .methodLink "PackDesk" 112 ⟨"PackDesk$PartList", "amount", "(I)I"⟩,
  .instanceMethod ⟨"PackDesk$PartList", "amount", "(I)I"⟩,
  .selects "PackDesk$PartList" ⟨"PackDesk$PartList", "amount", "(I)I"⟩ ⟨"PackDesk$PartList", "amount", "(I)I"⟩,
  .methodLink "PackDesk" 116 ⟨"PackDesk$PartList", "distance", "(I)I"⟩,
  .instanceMethod ⟨"PackDesk$PartList", "distance", "(I)I"⟩,
  .selects "PackDesk$PartList" ⟨"PackDesk$PartList", "distance", "(I)I"⟩ ⟨"PackDesk$PartList", "distance", "(I)I"⟩,
  .fieldLink "PackDesk" 121 "PackDesk$Packer" "book" "LPackDesk$BlockBook;",
  .fieldLink "PackDesk" 125 "PackDesk$BlockBook" "count" "I",
  .methodLink "PackDesk" 126 ⟨"PackDesk$BlockBook", "fact", "(II)I"⟩,
  .initialized "PackDesk$BlockBook",
  .instanceMethod ⟨"PackDesk$BlockBook", "fact", "(II)I"⟩,
  .selects "PackDesk$BlockBook" ⟨"PackDesk$BlockBook", "fact", "(II)I"⟩ ⟨"PackDesk$BlockBook", "fact", "(II)I"⟩,
  .methodLink "PackDesk" 130 ⟨"PackDesk$BlockBook", "codeLength", "(III)I"⟩,
  .instanceMethod ⟨"PackDesk$BlockBook", "codeLength", "(III)I"⟩,
  .selects "PackDesk$BlockBook" ⟨"PackDesk$BlockBook", "codeLength", "(III)I"⟩ ⟨"PackDesk$BlockBook", "codeLength", "(III)I"⟩,
  .methodLink "PackDesk" 134 ⟨"PackDesk$Unpacker", "begin", "()V"⟩,
  .instanceMethod ⟨"PackDesk$Unpacker", "begin", "()V"⟩,
  .selects "PackDesk$Unpacker" ⟨"PackDesk$Unpacker", "begin", "()V"⟩ ⟨"PackDesk$Unpacker", "begin", "()V"⟩,
  .constant "PackDesk" 137 (48000 : Int32),
  .fieldLink "PackDesk" 138 "PackDesk$Unpacker" "isDone" "Z",
  .methodLink "PackDesk" 142 ⟨"PackDesk$Unpacker", "readBlock", "(LPackDesk$Row;)V"⟩,
  .instanceMethod ⟨"PackDesk$Unpacker", "readBlock", "(LPackDesk$Row;)V"⟩,
  .selects "PackDesk$Unpacker" ⟨"PackDesk$Unpacker", "readBlock", "(LPackDesk$Row;)V"⟩ ⟨"PackDesk$Unpacker", "readBlock", "(LPackDesk$Row;)V"⟩,
  .fieldLink "PackDesk" 145 "PackDesk$Unpacker" "made" "LPackDesk$Row;",
  .fieldLink "PackDesk" 146 "PackDesk$Unpacker" "faultMet" "I",
  .fieldLink "PackDesk" 149 "PackDesk$Unpacker" "faultPlace" "I",
  .constant "PackDesk" 157 (1000000 : Int32),
  .methodLink "PackDesk" 165 ⟨"PackDesk", "weighedSymbols", "()I"⟩,
  .instanceMethod ⟨"PackDesk", "weighedSymbols", "()I"⟩,
  .selects "PackDesk" ⟨"PackDesk", "weighedSymbols", "()I"⟩ ⟨"PackDesk", "weighedSymbols", "()I"⟩,
  .methodLink "PackDesk" 171 ⟨"PackDesk$LengthMaker", "make", "([III[I)V"⟩,
  .instanceMethod ⟨"PackDesk$LengthMaker", "make", "([III[I)V"⟩,
  .selects "PackDesk$LengthMaker" ⟨"PackDesk$LengthMaker", "make", "([III[I)V"⟩ ⟨"PackDesk$LengthMaker", "make", "([III[I)V"⟩,
  .methodLink "PackDesk" 175 ⟨"PackDesk", "weightedSum", "([I[II)I"⟩,
  .static ⟨"PackDesk", "weightedSum", "([I[II)I"⟩]
noncomputable def tz_ps0 : List Nat := [82, 83, 85, 86, 56, 87, 88, 398, 399, 107, 400, 401, 402, 108, 109, 57, 110, 111, 128, 129, 58, 130, 131, 403, 223, 224, 61, 225, 226, 404, 366, 367, 67, 368, 369, 405, 427, 55, 429, 2, 100, 435, 436, 437, 439, 60, 173, 448, 449, 450, 94, 682, 683, 684, 456, 462, 463, 464, 327, 329, 238, 697, 62, 517, 518, 698, 513, 514, 699, 521, 522, 331, 254, 708, 63, 647, 648, 713, 714, 715, 822, 823, 824, 826, 375, 827, 828, 829, 373, 377, 379, 936, 948, 950, 33, 953, 552, 553, 954, 584]
/-- the words of PackDeskModel, and their places -/
noncomputable def tz_tb1 : List Cond := [.methodLink "PackDeskModel" 1 ⟨"java/lang/Object", "<init>", "()V"⟩,
  .instanceMethod ⟨"java/lang/Object", "<init>", "()V"⟩,
  .arrayClass .byte,
  .fieldLink "PackDeskModel" 7 "PackDeskModel" "tape" "[B",
  .fieldLink "PackDeskModel" 13 "PackDeskModel" "output" "[B",
  .fieldLink "PackDeskModel" 16 "PackDeskModel" "ready" "[B",
  .fieldLink "PackDeskModel" 19 "PackDeskModel" "packed" "[B",
  .fieldLink "PackDeskModel" 22 "PackDeskModel" "got" "[B",
  .arrayClass .int,
  .fieldLink "PackDeskModel" 25 "PackDeskModel" "partMany" "[I",
  .fieldLink "PackDeskModel" 29 "PackDeskModel" "partBack" "[I",
  .fieldLink "PackDeskModel" 32 "PackDeskModel" "partByte" "[I",
  .fieldLink "PackDeskModel" 35 "PackDeskModel" "partBlock" "[I",
  .fieldLink "PackDeskModel" 38 "PackDeskModel" "previous" "[I",
  .constant "PackDeskModel" 41 (65536 : Int32),
  .fieldLink "PackDeskModel" 42 "PackDeskModel" "lastPair" "[I",
  .fieldLink "PackDeskModel" 45 "PackDeskModel" "blockWay" "[I",
  .fieldLink "PackDeskModel" 48 "PackDeskModel" "blockParts" "[I",
  .fieldLink "PackDeskModel" 51 "PackDeskModel" "blockBytes" "[I",
  .fieldLink "PackDeskModel" 54 "PackDeskModel" "blockBits" "[I",
  .fieldLink "PackDeskModel" 57 "PackDeskModel" "blockFixed" "[I",
  .fieldLink "PackDeskModel" 60 "PackDeskModel" "blockDynamic" "[I",
  .fieldLink "PackDeskModel" 63 "PackDeskModel" "keptLit" "[I",
  .fieldLink "PackDeskModel" 66 "PackDeskModel" "keptBack" "[I",
  .fieldLink "PackDeskModel" 69 "PackDeskModel" "keptRow" "[I",
  .fieldLink "PackDeskModel" 72 "PackDeskModel" "lengthBase" "[I",
  .fieldLink "PackDeskModel" 75 "PackDeskModel" "lengthExtra" "[I",
  .fieldLink "PackDeskModel" 78 "PackDeskModel" "backBase" "[I",
  .fieldLink "PackDeskModel" 81 "PackDeskModel" "backExtra" "[I",
  .fieldLink "PackDeskModel" 84 "PackDeskModel" "orderOf" "[I",
  .fieldLink "PackDeskModel" 87 "PackDeskModel" "often" "[I",
  .fieldLink "PackDeskModel" 90 "PackDeskModel" "backOften" "[I",
  .fieldLink "PackDeskModel" 93 "PackDeskModel" "rowOften" "[I",
  .fieldLink "PackDeskModel" 96 "PackDeskModel" "litLength" "[I",
  .fieldLink "PackDeskModel" 99 "PackDeskModel" "backLength" "[I",
  .fieldLink "PackDeskModel" 102 "PackDeskModel" "rowLength" "[I",
  .fieldLink "PackDeskModel" 105 "PackDeskModel" "litCode" "[I",
  .fieldLink "PackDeskModel" 108 "PackDeskModel" "backCodes" "[I",
  .fieldLink "PackDeskModel" 111 "PackDeskModel" "rowCode" "[I",
  .fieldLink "PackDeskModel" 114 "PackDeskModel" "fixLength" "[I",
  .fieldLink "PackDeskModel" 117 "PackDeskModel" "fixCode" "[I",
  .fieldLink "PackDeskModel" 120 "PackDeskModel" "fixBack" "[I",
  .fieldLink "PackDeskModel" 123 "PackDeskModel" "fixBackCode" "[I",
  .fieldLink "PackDeskModel" 126 "PackDeskModel" "symbol" "[I",
  .fieldLink "PackDeskModel" 129 "PackDeskModel" "weight" "[I",
  .fieldLink "PackDeskModel" 132 "PackDeskModel" "weightNew" "[I",
  .constant "PackDeskModel" 135 (172800 : Int32),
  .fieldLink "PackDeskModel" 136 "PackDeskModel" "holds" "[I",
  .fieldLink "PackDeskModel" 139 "PackDeskModel" "holdsNew" "[I",
  .fieldLink "PackDeskModel" 142 "PackDeskModel" "lengthMany" "[I",
  .fieldLink "PackDeskModel" 145 "PackDeskModel" "nextCode" "[I",
  .fieldLink "PackDeskModel" 148 "PackDeskModel" "rowTold" "[I",
  .fieldLink "PackDeskModel" 151 "PackDeskModel" "rowRest" "[I",
  .fieldLink "PackDeskModel" 154 "PackDeskModel" "rowOf" "[I",
  .fieldLink "PackDeskModel" 157 "PackDeskModel" "faultPlace" "I",
  .fieldLink "PackDeskModel" 161 "PackDeskModel" "takenLit" "[I",
  .fieldLink "PackDeskModel" 164 "PackDeskModel" "takenBack" "[I",
  .fieldLink "PackDeskModel" 167 "PackDeskModel" "takenRow" "[I",
  .fieldLink "PackDeskModel" 170 "PackDeskModel" "taken" "[I",
  .fieldLink "PackDeskModel" 173 "PackDeskModel" "weights" "[I",
  .fieldLink "PackDeskModel" 176 "PackDeskModel" "scale" "[I",
  .fieldLink "PackDeskModel" 179 "PackDeskModel" "thrown" "I",
  .fieldLink "PackDeskModel" 182 "PackDeskModel" "taped" "I",
  .fieldLink "PackDeskModel" 185 "PackDeskModel" "outs" "I",
  .constant "PackDeskModel" 188 (-306674912 : Int32),
  .fieldLink "PackDeskModel" 189 "PackDeskModel" "found" "I",
  .fieldLink "PackDeskModel" 192 "PackDeskModel" "foundBack" "I",
  .fieldLink "PackDeskModel" 195 "PackDeskModel" "parts" "I",
  .methodLink "PackDeskModel" 198 ⟨"PackDeskModel", "longest", "(I)V"⟩,
  .initialized "PackDeskModel",
  .instanceMethod ⟨"PackDeskModel", "longest", "(I)V"⟩,
  .selects "PackDeskModel" ⟨"PackDeskModel", "longest", "(I)V"⟩ ⟨"PackDeskModel", "longest", "(I)V"⟩,
  .methodLink "PackDeskModel" 202 ⟨"PackDeskModel", "putPackage", "(IIIIII)V"⟩,
  .instanceMethod ⟨"PackDeskModel", "putPackage", "(IIIIII)V"⟩,
  .selects "PackDeskModel" ⟨"PackDeskModel", "putPackage", "(IIIIII)V"⟩ ⟨"PackDeskModel", "putPackage", "(IIIIII)V"⟩,
  .fieldLink "PackDeskModel" 206 "PackDeskModel" "bits" "I",
  .methodLink "PackDeskModel" 209 ⟨"PackDeskModel", "writeBits", "(II)V"⟩,
  .instanceMethod ⟨"PackDeskModel", "writeBits", "(II)V"⟩,
  .selects "PackDeskModel" ⟨"PackDeskModel", "writeBits", "(II)V"⟩ ⟨"PackDeskModel", "writeBits", "(II)V"⟩,
  .methodLink "PackDeskModel" 213 ⟨"PackDeskModel", "lengthCode", "(I)I"⟩,
  .instanceMethod ⟨"PackDeskModel", "lengthCode", "(I)I"⟩,
  .selects "PackDeskModel" ⟨"PackDeskModel", "lengthCode", "(I)I"⟩ ⟨"PackDeskModel", "lengthCode", "(I)I"⟩,
  .methodLink "PackDeskModel" 217 ⟨"PackDeskModel", "backCode", "(I)I"⟩,
  .instanceMethod ⟨"PackDeskModel", "backCode", "(I)I"⟩,
  .selects "PackDeskModel" ⟨"PackDeskModel", "backCode", "(I)I"⟩ ⟨"PackDeskModel", "backCode", "(I)I"⟩,
  .fieldLink "PackDeskModel" 220 "PackDeskModel" "rowMany" "I",
  .fieldLink "PackDeskModel" 223 "PackDeskModel" "litMany" "I",
  .fieldLink "PackDeskModel" 226 "PackDeskModel" "backMany" "I",
  .methodLink "PackDeskModel" 229 ⟨"PackDeskModel", "tellRow", "(II)V"⟩,
  .instanceMethod ⟨"PackDeskModel", "tellRow", "(II)V"⟩,
  .selects "PackDeskModel" ⟨"PackDeskModel", "tellRow", "(II)V"⟩ ⟨"PackDeskModel", "tellRow", "(II)V"⟩,
  .methodLink "PackDeskModel" 232 ⟨"PackDeskModel", "lengths", "([III[I)V"⟩,
  .instanceMethod ⟨"PackDeskModel", "lengths", "([III[I)V"⟩,
  .selects "PackDeskModel" ⟨"PackDeskModel", "lengths", "([III[I)V"⟩ ⟨"PackDeskModel", "lengths", "([III[I)V"⟩,
  .methodLink "PackDeskModel" 236 ⟨"PackDeskModel", "costOf", "([I[I)J"⟩,
  .instanceMethod ⟨"PackDeskModel", "costOf", "([I[I)J"⟩,
  .selects "PackDeskModel" ⟨"PackDeskModel", "costOf", "([I[I)J"⟩ ⟨"PackDeskModel", "costOf", "([I[I)J"⟩,
  .methodLink "PackDeskModel" 240 ⟨"PackDeskModel", "tellLengths", "()V"⟩,
  .instanceMethod ⟨"PackDeskModel", "tellLengths", "()V"⟩,
  .selects "PackDeskModel" ⟨"PackDeskModel", "tellLengths", "()V"⟩ ⟨"PackDeskModel", "tellLengths", "()V"⟩,
  .constantLong "PackDeskModel" 243 (17 : Int64),
  .constantLong "PackDeskModel" 245 (3 : Int64),
  .methodLink "PackDeskModel" 247 ⟨"PackDeskModel", "restOf", "(I)I"⟩,
  .static ⟨"PackDeskModel", "restOf", "(I)I"⟩,
  .constantLong "PackDeskModel" 250 (32 : Int64),
  .constantLong "PackDeskModel" 252 (8 : Int64),
  .fieldLink "PackDeskModel" 254 "PackDeskModel" "blocks" "I",
  .methodLink "PackDeskModel" 257 ⟨"PackDeskModel", "codes", "([II[I)V"⟩,
  .instanceMethod ⟨"PackDeskModel", "codes", "([II[I)V"⟩,
  .selects "PackDeskModel" ⟨"PackDeskModel", "codes", "([II[I)V"⟩ ⟨"PackDeskModel", "codes", "([II[I)V"⟩,
  .methodLink "PackDeskModel" 261 ⟨"PackDeskModel", "writeParts", "(III[I[I[I[I)V"⟩,
  .instanceMethod ⟨"PackDeskModel", "writeParts", "(III[I[I[I[I)V"⟩,
  .selects "PackDeskModel" ⟨"PackDeskModel", "writeParts", "(III[I[I[I[I)V"⟩ ⟨"PackDeskModel", "writeParts", "(III[I[I[I[I)V"⟩,
  .methodLink "PackDeskModel" 265 ⟨"PackDeskModel", "findParts", "()V"⟩,
  .instanceMethod ⟨"PackDeskModel", "findParts", "()V"⟩,
  .selects "PackDeskModel" ⟨"PackDeskModel", "findParts", "()V"⟩ ⟨"PackDeskModel", "findParts", "()V"⟩,
  .methodLink "PackDeskModel" 268 ⟨"PackDeskModel", "writeBlock", "(IIIIZ)V"⟩,
  .instanceMethod ⟨"PackDeskModel", "writeBlock", "(IIIIZ)V"⟩,
  .selects "PackDeskModel" ⟨"PackDeskModel", "writeBlock", "(IIIIZ)V"⟩ ⟨"PackDeskModel", "writeBlock", "(IIIIZ)V"⟩,
  .fieldLink "PackDeskModel" 272 "PackDeskModel" "unpackFault" "I",
  .fieldLink "PackDeskModel" 275 "PackDeskModel" "bit" "I",
  .fieldLink "PackDeskModel" 278 "PackDeskModel" "gotMany" "I",
  .methodLink "PackDeskModel" 281 ⟨"PackDeskModel", "wrong", "(I)V"⟩,
  .instanceMethod ⟨"PackDeskModel", "wrong", "(I)V"⟩,
  .selects "PackDeskModel" ⟨"PackDeskModel", "wrong", "(I)V"⟩ ⟨"PackDeskModel", "wrong", "(I)V"⟩,
  .methodLink "PackDeskModel" 284 ⟨"PackDeskModel", "takeBits", "(I)I"⟩,
  .instanceMethod ⟨"PackDeskModel", "takeBits", "(I)I"⟩,
  .selects "PackDeskModel" ⟨"PackDeskModel", "takeBits", "(I)I"⟩ ⟨"PackDeskModel", "takeBits", "(I)I"⟩,
  .methodLink "PackDeskModel" 287 ⟨"PackDeskModel", "symbolOf", "([IIII)I"⟩,
  .static ⟨"PackDeskModel", "symbolOf", "([IIII)I"⟩,
  .constant "PackDeskModel" 291 (32768 : Int32),
  .constant "PackDeskModel" 292 (65535 : Int32),
  .methodLink "PackDeskModel" 293 ⟨"PackDeskModel", "give", "(I)V"⟩,
  .instanceMethod ⟨"PackDeskModel", "give", "(I)V"⟩,
  .selects "PackDeskModel" ⟨"PackDeskModel", "give", "(I)V"⟩ ⟨"PackDeskModel", "give", "(I)V"⟩,
  .methodLink "PackDeskModel" 296 ⟨"PackDeskModel", "isWhole", "([II)Z"⟩,
  .static ⟨"PackDeskModel", "isWhole", "([II)Z"⟩,
  .methodLink "PackDeskModel" 300 ⟨"PackDeskModel", "takeSymbol", "([II)I"⟩,
  .instanceMethod ⟨"PackDeskModel", "takeSymbol", "([II)I"⟩,
  .selects "PackDeskModel" ⟨"PackDeskModel", "takeSymbol", "([II)I"⟩ ⟨"PackDeskModel", "takeSymbol", "([II)I"⟩,
  .methodLink "PackDeskModel" 304 ⟨"PackDeskModel", "unpackStored", "()V"⟩,
  .instanceMethod ⟨"PackDeskModel", "unpackStored", "()V"⟩,
  .selects "PackDeskModel" ⟨"PackDeskModel", "unpackStored", "()V"⟩ ⟨"PackDeskModel", "unpackStored", "()V"⟩,
  .methodLink "PackDeskModel" 307 ⟨"PackDeskModel", "readLengths", "()V"⟩,
  .instanceMethod ⟨"PackDeskModel", "readLengths", "()V"⟩,
  .selects "PackDeskModel" ⟨"PackDeskModel", "readLengths", "()V"⟩ ⟨"PackDeskModel", "readLengths", "()V"⟩,
  .methodLink "PackDeskModel" 310 ⟨"PackDeskModel", "unpackCodes", "()V"⟩,
  .instanceMethod ⟨"PackDeskModel", "unpackCodes", "()V"⟩,
  .selects "PackDeskModel" ⟨"PackDeskModel", "unpackCodes", "()V"⟩ ⟨"PackDeskModel", "unpackCodes", "()V"⟩,
  .fieldLink "PackDeskModel" 313 "PackDeskModel" "fault" "I",
  .constant "PackDeskModel" 316 (1000000 : Int32)]
noncomputable def tz_ps1 : List Nat := [960, 83, 813, 964, 965, 966, 967, 968, 107, 971, 972, 973, 974, 975, 961, 976, 982, 983, 984, 985, 986, 987, 988, 989, 990, 991, 992, 993, 994, 995, 996, 997, 998, 999, 1000, 1001, 1002, 1003, 1004, 1005, 1006, 1007, 1008, 1009, 1010, 1011, 962, 1012, 1013, 1014, 1015, 1016, 1017, 1018, 1026, 1027, 1028, 1029, 1030, 1031, 1032, 963, 969, 970, 1198, 980, 981, 977, 1207, 68, 1209, 35, 1227, 1229, 40, 979, 1250, 1252, 44, 1215, 1217, 37, 1219, 1221, 38, 1019, 1020, 1021, 1239, 1241, 43, 1223, 1225, 39, 1231, 1233, 41, 1235, 1237, 42, 1243, 1244, 1245, 1246, 1248, 1249, 978, 1254, 1256, 45, 1258, 1260, 46, 1203, 1205, 34, 1211, 1213, 36, 1024, 1022, 1023, 1290, 1292, 48, 1286, 1288, 47, 1315, 1316, 1310, 1298, 1299, 1301, 50, 1307, 1308, 1311, 1313, 52, 1294, 1296, 49, 1303, 1305, 51, 1318, 1320, 53, 1025, 1334]
/-- the words of PackDesk$BitWriter, and their places -/
noncomputable def tz_tb2 : List Cond := [.methodLink "PackDesk$BitWriter" 3 ⟨"java/lang/Object", "<init>", "()V"⟩,
  .instanceMethod ⟨"java/lang/Object", "<init>", "()V"⟩,
  .fieldLink "PackDesk$BitWriter" 9 "PackDesk$BitWriter" "row" "LPackDesk$Row;",
  .fieldLink "PackDesk$BitWriter" 15 "PackDesk$Row" "size" "I",
  .fieldLink "PackDesk$BitWriter" 21 "PackDesk$BitWriter" "held" "I",
  .fieldLink "PackDesk$BitWriter" 24 "PackDesk$BitWriter" "heldBits" "I",
  .methodLink "PackDesk$BitWriter" 27 ⟨"PackDesk$Row", "add", "(I)V"⟩,
  .initialized "PackDesk$Row",
  .instanceMethod ⟨"PackDesk$Row", "add", "(I)V"⟩,
  .selects "PackDesk$Row" ⟨"PackDesk$Row", "add", "(I)V"⟩ ⟨"PackDesk$Row", "add", "(I)V"⟩,
  .methodLink "PackDesk$BitWriter" 31 ⟨"PackDesk$BitWriter", "missingBehind", "(I)I"⟩,
  .initialized "PackDesk$BitWriter",
  .instanceMethod ⟨"PackDesk$BitWriter", "missingBehind", "(I)I"⟩,
  .selects "PackDesk$BitWriter" ⟨"PackDesk$BitWriter", "missingBehind", "(I)I"⟩ ⟨"PackDesk$BitWriter", "missingBehind", "(I)I"⟩,
  .methodLink "PackDesk$BitWriter" 35 ⟨"PackDesk$BitWriter", "putBits", "(II)V"⟩,
  .instanceMethod ⟨"PackDesk$BitWriter", "putBits", "(II)V"⟩,
  .selects "PackDesk$BitWriter" ⟨"PackDesk$BitWriter", "putBits", "(II)V"⟩ ⟨"PackDesk$BitWriter", "putBits", "(II)V"⟩,
  .fieldLink "PackDesk$BitWriter" 39 "PackDesk$Code" "words" "[I",
  .fieldLink "PackDesk$BitWriter" 45 "PackDesk$Code" "lengths" "[I"]
noncomputable def tz_ps2 : List Nat := [315, 83, 316, 96, 317, 318, 641, 56, 436, 437, 658, 66, 634, 635, 659, 638, 639, 148, 145]
/-- the words of PackDesk$BlockBook, and their places -/
noncomputable def tz_tb3 : List Cond := [.methodLink "PackDesk$BlockBook" 5 ⟨"java/lang/Object", "<init>", "()V"⟩,
  .instanceMethod ⟨"java/lang/Object", "<init>", "()V"⟩,
  .arrayClass .int,
  .fieldLink "PackDesk$BlockBook" 11 "PackDesk$BlockBook" "facts" "[I",
  .fieldLink "PackDesk$BlockBook" 15 "PackDesk$BlockBook" "codeLengths" "[I",
  .methodLink "PackDesk$BlockBook" 18 ⟨"java/lang/Math", "min", "(II)I"⟩,
  .initialized "java/lang/Math",
  .static ⟨"java/lang/Math", "min", "(II)I"⟩,
  .methodLink "PackDesk$BlockBook" 24 ⟨"java/lang/Math", "max", "(II)I"⟩,
  .static ⟨"java/lang/Math", "max", "(II)I"⟩,
  .fieldLink "PackDesk$BlockBook" 27 "PackDesk$BlockBook" "count" "I",
  .methodLink "PackDesk$BlockBook" 31 ⟨"PackDesk$BlockBook", "has", "(I)Z"⟩,
  .initialized "PackDesk$BlockBook",
  .instanceMethod ⟨"PackDesk$BlockBook", "has", "(I)Z"⟩,
  .selects "PackDesk$BlockBook" ⟨"PackDesk$BlockBook", "has", "(I)Z"⟩ ⟨"PackDesk$BlockBook", "has", "(I)Z"⟩,
  .fieldLink "PackDesk$BlockBook" 35 "PackDesk$CodeSet" "literals" "LPackDesk$Code;",
  .fieldLink "PackDesk$BlockBook" 41 "PackDesk$Code" "lengths" "[I",
  .methodLink "PackDesk$BlockBook" 46 ⟨"java/lang/System", "arraycopy", "(Ljava/lang/Object;ILjava/lang/Object;II)V"⟩,
  .initialized "java/lang/System",
  .static ⟨"java/lang/System", "arraycopy", "(Ljava/lang/Object;ILjava/lang/Object;II)V"⟩,
  .native ⟨"java/lang/System", "arraycopy", "(Ljava/lang/Object;ILjava/lang/Object;II)V"⟩,
  .fieldLink "PackDesk$BlockBook" 52 "PackDesk$CodeSet" "distances" "LPackDesk$Code;",
  .fieldLink "PackDesk$BlockBook" 55 "PackDesk$CodeSet" "alphabet" "LPackDesk$Code;",
  .methodLink "PackDesk$BlockBook" 58 ⟨"PackDesk$BlockBook", "fact", "(II)I"⟩,
  .instanceMethod ⟨"PackDesk$BlockBook", "fact", "(II)I"⟩,
  .selects "PackDesk$BlockBook" ⟨"PackDesk$BlockBook", "fact", "(II)I"⟩ ⟨"PackDesk$BlockBook", "fact", "(II)I"⟩,
  .fieldLink "PackDesk$BlockBook" 61 "PackDesk$BlockBook" "CODE_FROM" "[I",
  .fieldLink "PackDesk$BlockBook" 64 "PackDesk$BlockBook" "CODE_SYMBOLS" "[I"]
noncomputable def tz_ps3 : List Nat := [249, 83, 107, 250, 251, 504, 73, 484, 505, 487, 252, 543, 63, 545, 6, 200, 143, 674, 74, 595, 596, 205, 209, 717, 647, 648, 718, 720]
/-- the words of PackDesk$Code, and their places -/
noncomputable def tz_tb4 : List Cond := [.methodLink "PackDesk$Code" 3 ⟨"java/lang/Object", "<init>", "()V"⟩,
  .instanceMethod ⟨"java/lang/Object", "<init>", "()V"⟩,
  .arrayClass .int,
  .fieldLink "PackDesk$Code" 9 "PackDesk$Code" "lengths" "[I",
  .fieldLink "PackDesk$Code" 15 "PackDesk$Code" "words" "[I",
  .fieldLink "PackDesk$Code" 18 "PackDesk$Code" "counts" "[I",
  .fieldLink "PackDesk$Code" 21 "PackDesk$Code" "inTurn" "[I",
  .fieldLink "PackDesk$Code" 24 "PackDesk$Code" "nextWords" "[I",
  .fieldLink "PackDesk$Code" 27 "PackDesk$Code" "nextPlaces" "[I",
  .methodLink "PackDesk$Code" 30 ⟨"java/util/Arrays", "fill", "([II)V"⟩,
  .initialized "java/util/Arrays",
  .static ⟨"java/util/Arrays", "fill", "([II)V"⟩,
  .methodLink "PackDesk$Code" 36 ⟨"PackDesk$Code", "isCoded", "(I)Z"⟩,
  .initialized "PackDesk$Code",
  .instanceMethod ⟨"PackDesk$Code", "isCoded", "(I)Z"⟩,
  .selects "PackDesk$Code" ⟨"PackDesk$Code", "isCoded", "(I)Z"⟩ ⟨"PackDesk$Code", "isCoded", "(I)Z"⟩,
  .fieldLink "PackDesk$Code" 40 "PackDesk$Code" "coded" "I",
  .methodLink "PackDesk$Code" 44 ⟨"PackDesk$Code", "settleSymbol", "(II)V"⟩,
  .instanceMethod ⟨"PackDesk$Code", "settleSymbol", "(II)V"⟩,
  .selects "PackDesk$Code" ⟨"PackDesk$Code", "settleSymbol", "(II)V"⟩ ⟨"PackDesk$Code", "settleSymbol", "(II)V"⟩,
  .methodLink "PackDesk$Code" 48 ⟨"PackDesk$Code", "turned", "(II)I"⟩,
  .static ⟨"PackDesk$Code", "turned", "(II)I"⟩]
noncomputable def tz_ps4 : List Nat := [139, 83, 107, 140, 147, 149, 151, 155, 156, 179, 60, 173, 180, 59, 182, 0, 153, 184, 186, 1, 188, 189]
/-- the words of PackDesk$CodeHead, and their places -/
noncomputable def tz_tb5 : List Cond := [.methodLink "PackDesk$CodeHead" 3 ⟨"java/lang/Object", "<init>", "()V"⟩,
  .instanceMethod ⟨"java/lang/Object", "<init>", "()V"⟩,
  .arrayClass .int,
  .fieldLink "PackDesk$CodeHead" 9 "PackDesk$CodeHead" "row" "[I",
  .fieldLink "PackDesk$CodeHead" 15 "PackDesk$CodeHead" "symbols" "[I",
  .fieldLink "PackDesk$CodeHead" 18 "PackDesk$CodeHead" "extras" "[I",
  .fieldLink "PackDesk$CodeHead" 21 "PackDesk$CodeHead" "comings" "[I",
  .fieldLink "PackDesk$CodeHead" 24 "PackDesk$CodeSet" "literals" "LPackDesk$Code;",
  .fieldLink "PackDesk$CodeHead" 30 "PackDesk$Code" "lengths" "[I",
  .methodLink "PackDesk$CodeHead" 35 ⟨"PackDesk$CodeHead", "toldCount", "([III)I"⟩,
  .initialized "PackDesk$CodeHead",
  .static ⟨"PackDesk$CodeHead", "toldCount", "([III)I"⟩,
  .fieldLink "PackDesk$CodeHead" 39 "PackDesk$CodeHead" "literals" "I",
  .fieldLink "PackDesk$CodeHead" 42 "PackDesk$CodeSet" "distances" "LPackDesk$Code;",
  .fieldLink "PackDesk$CodeHead" 45 "PackDesk$CodeHead" "distances" "I",
  .methodLink "PackDesk$CodeHead" 47 ⟨"java/lang/System", "arraycopy", "(Ljava/lang/Object;ILjava/lang/Object;II)V"⟩,
  .initialized "java/lang/System",
  .static ⟨"java/lang/System", "arraycopy", "(Ljava/lang/Object;ILjava/lang/Object;II)V"⟩,
  .native ⟨"java/lang/System", "arraycopy", "(Ljava/lang/Object;ILjava/lang/Object;II)V"⟩,
  .methodLink "PackDesk$CodeHead" 53 ⟨"PackDesk$CodeHead", "tellRow", "(I)V"⟩,
  .instanceMethod ⟨"PackDesk$CodeHead", "tellRow", "(I)V"⟩,
  .selects "PackDesk$CodeHead" ⟨"PackDesk$CodeHead", "tellRow", "(I)V"⟩ ⟨"PackDesk$CodeHead", "tellRow", "(I)V"⟩,
  .fieldLink "PackDesk$CodeHead" 57 "PackDesk$CodeSet" "alphabet" "LPackDesk$Code;",
  .methodLink "PackDesk$CodeHead" 60 ⟨"PackDesk$LengthMaker", "make", "([III[I)V"⟩,
  .initialized "PackDesk$LengthMaker",
  .instanceMethod ⟨"PackDesk$LengthMaker", "make", "([III[I)V"⟩,
  .selects "PackDesk$LengthMaker" ⟨"PackDesk$LengthMaker", "make", "([III[I)V"⟩ ⟨"PackDesk$LengthMaker", "make", "([III[I)V"⟩,
  .methodLink "PackDesk$CodeHead" 66 ⟨"PackDesk$Code", "settle", "()V"⟩,
  .initialized "PackDesk$Code",
  .instanceMethod ⟨"PackDesk$Code", "settle", "()V"⟩,
  .selects "PackDesk$Code" ⟨"PackDesk$Code", "settle", "()V"⟩ ⟨"PackDesk$Code", "settle", "()V"⟩,
  .methodLink "PackDesk$CodeHead" 69 ⟨"PackDesk$CodeHead", "toldOrder", "([I)I"⟩,
  .static ⟨"PackDesk$CodeHead", "toldOrder", "([I)I"⟩,
  .fieldLink "PackDesk$CodeHead" 73 "PackDesk$CodeHead" "orderTold" "I",
  .methodLink "PackDesk$CodeHead" 76 ⟨"PackDesk$CodeHead", "extraBits", "()I"⟩,
  .instanceMethod ⟨"PackDesk$CodeHead", "extraBits", "()I"⟩,
  .selects "PackDesk$CodeHead" ⟨"PackDesk$CodeHead", "extraBits", "()I"⟩ ⟨"PackDesk$CodeHead", "extraBits", "()I"⟩,
  .methodLinkNest "PackDesk$CodeHead" 80 ⟨"PackDesk", "weightedSum", "([I[II)I"⟩ "PackDesk",
  .initialized "PackDesk",
  .static ⟨"PackDesk", "weightedSum", "([I[II)I"⟩,
  .methodLink "PackDesk$CodeHead" 84 ⟨"PackDesk$BitWriter", "putBits", "(II)V"⟩,
  .initialized "PackDesk$BitWriter",
  .instanceMethod ⟨"PackDesk$BitWriter", "putBits", "(II)V"⟩,
  .selects "PackDesk$BitWriter" ⟨"PackDesk$BitWriter", "putBits", "(II)V"⟩ ⟨"PackDesk$BitWriter", "putBits", "(II)V"⟩,
  .fieldLinkNest "PackDesk$CodeHead" 90 "PackDesk" "ALPHABET_ORDER" "[I" "PackDesk",
  .fieldLink "PackDesk$CodeHead" 93 "PackDesk$CodeHead" "symbolCount" "I",
  .methodLink "PackDesk$CodeHead" 96 ⟨"PackDesk$BitWriter", "putSymbol", "(LPackDesk$Code;I)V"⟩,
  .instanceMethod ⟨"PackDesk$BitWriter", "putSymbol", "(LPackDesk$Code;I)V"⟩,
  .selects "PackDesk$BitWriter" ⟨"PackDesk$BitWriter", "putSymbol", "(LPackDesk$Code;I)V"⟩ ⟨"PackDesk$BitWriter", "putSymbol", "(LPackDesk$Code;I)V"⟩,
  .methodLink "PackDesk$CodeHead" 100 ⟨"PackDesk$CodeHead", "extraBitsOf", "(I)I"⟩,
  .static ⟨"PackDesk$CodeHead", "extraBitsOf", "(I)I"⟩,
  .methodLink "PackDesk$CodeHead" 104 ⟨"java/lang/Math", "min", "(II)I"⟩,
  .initialized "java/lang/Math",
  .static ⟨"java/lang/Math", "min", "(II)I"⟩,
  .methodLink "PackDesk$CodeHead" 110 ⟨"java/util/Arrays", "fill", "([II)V"⟩,
  .initialized "java/util/Arrays",
  .static ⟨"java/util/Arrays", "fill", "([II)V"⟩,
  .methodLink "PackDesk$CodeHead" 116 ⟨"PackDesk$CodeHead", "tellAt", "(II)I"⟩,
  .instanceMethod ⟨"PackDesk$CodeHead", "tellAt", "(II)I"⟩,
  .selects "PackDesk$CodeHead" ⟨"PackDesk$CodeHead", "tellAt", "(II)I"⟩ ⟨"PackDesk$CodeHead", "tellAt", "(II)I"⟩,
  .methodLink "PackDesk$CodeHead" 119 ⟨"PackDesk$CodeHead", "sameFrom", "(IIII)I"⟩,
  .instanceMethod ⟨"PackDesk$CodeHead", "sameFrom", "(IIII)I"⟩,
  .selects "PackDesk$CodeHead" ⟨"PackDesk$CodeHead", "sameFrom", "(IIII)I"⟩ ⟨"PackDesk$CodeHead", "sameFrom", "(IIII)I"⟩,
  .fieldLinkNest "PackDesk$CodeHead" 123 "PackDesk" "REPEAT_BASE" "[I" "PackDesk",
  .methodLink "PackDesk$CodeHead" 126 ⟨"PackDesk$CodeHead", "addSymbol", "(II)V"⟩,
  .instanceMethod ⟨"PackDesk$CodeHead", "addSymbol", "(II)V"⟩,
  .selects "PackDesk$CodeHead" ⟨"PackDesk$CodeHead", "addSymbol", "(II)V"⟩ ⟨"PackDesk$CodeHead", "addSymbol", "(II)V"⟩,
  .fieldLinkNest "PackDesk$CodeHead" 129 "PackDesk" "REPEAT_EXTRA" "[I" "PackDesk"]
noncomputable def tz_ps5 : List Nat := [284, 83, 107, 285, 288, 289, 291, 198, 142, 590, 65, 591, 286, 203, 287, 594, 74, 595, 596, 597, 599, 14, 208, 616, 57, 552, 553, 617, 59, 176, 177, 618, 619, 292, 623, 625, 18, 632, 55, 584, 680, 66, 638, 639, 621, 290, 681, 667, 668, 627, 628, 593, 73, 484, 601, 60, 173, 602, 604, 15, 606, 608, 16, 610, 612, 614, 17, 630]
/-- the words of PackDesk$CodeSet, and their places -/
noncomputable def tz_tb6 : List Cond := [.methodLink "PackDesk$CodeSet" 1 ⟨"java/lang/Object", "<init>", "()V"⟩,
  .instanceMethod ⟨"java/lang/Object", "<init>", "()V"⟩,
  .classLink "PackDesk$CodeSet" 7 "PackDesk$Code",
  .instantiable "PackDesk$Code" 7,
  .initialized "PackDesk$Code",
  .methodLinkNest "PackDesk$CodeSet" 9 ⟨"PackDesk$Code", "<init>", "()V"⟩ "PackDesk",
  .instanceMethod ⟨"PackDesk$Code", "<init>", "()V"⟩,
  .fieldLink "PackDesk$CodeSet" 10 "PackDesk$CodeSet" "fixedLiterals" "LPackDesk$Code;",
  .fieldLink "PackDesk$CodeSet" 16 "PackDesk$CodeSet" "fixedDistances" "LPackDesk$Code;",
  .fieldLink "PackDesk$CodeSet" 19 "PackDesk$CodeSet" "literals" "LPackDesk$Code;",
  .fieldLink "PackDesk$CodeSet" 22 "PackDesk$CodeSet" "distances" "LPackDesk$Code;",
  .fieldLink "PackDesk$CodeSet" 25 "PackDesk$CodeSet" "alphabet" "LPackDesk$Code;",
  .fieldLink "PackDesk$CodeSet" 28 "PackDesk$Code" "lengths" "[I",
  .methodLink "PackDesk$CodeSet" 32 ⟨"java/util/Arrays", "fill", "([II)V"⟩,
  .initialized "java/util/Arrays",
  .static ⟨"java/util/Arrays", "fill", "([II)V"⟩,
  .methodLink "PackDesk$CodeSet" 38 ⟨"PackDesk$Code", "settle", "()V"⟩,
  .instanceMethod ⟨"PackDesk$Code", "settle", "()V"⟩,
  .selects "PackDesk$Code" ⟨"PackDesk$Code", "settle", "()V"⟩ ⟨"PackDesk$Code", "settle", "()V"⟩]
noncomputable def tz_ps6 : List Nat := [133, 83, 134, 135, 59, 136, 137, 191, 194, 197, 202, 207, 141, 172, 60, 173, 175, 176, 177]
/-- the words of PackDesk$LengthMaker, and their places -/
noncomputable def tz_tb7 : List Cond := [.methodLink "PackDesk$LengthMaker" 3 ⟨"java/lang/Object", "<init>", "()V"⟩,
  .instanceMethod ⟨"java/lang/Object", "<init>", "()V"⟩,
  .arrayClass .int,
  .fieldLink "PackDesk$LengthMaker" 9 "PackDesk$LengthMaker" "keys" "[I",
  .arrayClass .long,
  .fieldLink "PackDesk$LengthMaker" 15 "PackDesk$LengthMaker" "sums" "[J",
  .fieldLink "PackDesk$LengthMaker" 19 "PackDesk$LengthMaker" "pairs" "[J",
  .fieldLink "PackDesk$LengthMaker" 22 "PackDesk$LengthMaker" "alone" "[I",
  .methodLink "PackDesk$LengthMaker" 25 ⟨"java/util/Arrays", "fill", "([II)V"⟩,
  .initialized "java/util/Arrays",
  .static ⟨"java/util/Arrays", "fill", "([II)V"⟩,
  .methodLink "PackDesk$LengthMaker" 31 ⟨"java/lang/Math", "min", "(II)I"⟩,
  .initialized "java/lang/Math",
  .static ⟨"java/lang/Math", "min", "(II)I"⟩,
  .methodLink "PackDesk$LengthMaker" 37 ⟨"PackDesk$LengthMaker", "gather", "([II)I"⟩,
  .initialized "PackDesk$LengthMaker",
  .instanceMethod ⟨"PackDesk$LengthMaker", "gather", "([II)I"⟩,
  .selects "PackDesk$LengthMaker" ⟨"PackDesk$LengthMaker", "gather", "([II)I"⟩ ⟨"PackDesk$LengthMaker", "gather", "([II)I"⟩,
  .fieldLink "PackDesk$LengthMaker" 41 "PackDesk$LengthMaker" "GAPS" "[I",
  .methodLink "PackDesk$LengthMaker" 44 ⟨"PackDesk$LengthMaker", "sortByGap", "(II)V"⟩,
  .instanceMethod ⟨"PackDesk$LengthMaker", "sortByGap", "(II)V"⟩,
  .selects "PackDesk$LengthMaker" ⟨"PackDesk$LengthMaker", "sortByGap", "(II)V"⟩ ⟨"PackDesk$LengthMaker", "sortByGap", "(II)V"⟩,
  .methodLink "PackDesk$LengthMaker" 48 ⟨"PackDesk$LengthMaker", "lengthen", "([II)V"⟩,
  .instanceMethod ⟨"PackDesk$LengthMaker", "lengthen", "([II)V"⟩,
  .selects "PackDesk$LengthMaker" ⟨"PackDesk$LengthMaker", "lengthen", "([II)V"⟩ ⟨"PackDesk$LengthMaker", "lengthen", "([II)V"⟩,
  .methodLink "PackDesk$LengthMaker" 51 ⟨"PackDesk$LengthMaker", "mergeRounds", "(II)V"⟩,
  .instanceMethod ⟨"PackDesk$LengthMaker", "mergeRounds", "(II)V"⟩,
  .selects "PackDesk$LengthMaker" ⟨"PackDesk$LengthMaker", "mergeRounds", "(II)V"⟩ ⟨"PackDesk$LengthMaker", "mergeRounds", "(II)V"⟩,
  .methodLink "PackDesk$LengthMaker" 54 ⟨"PackDesk$LengthMaker", "countDown", "(II[I)V"⟩,
  .instanceMethod ⟨"PackDesk$LengthMaker", "countDown", "(II[I)V"⟩,
  .selects "PackDesk$LengthMaker" ⟨"PackDesk$LengthMaker", "countDown", "(II[I)V"⟩ ⟨"PackDesk$LengthMaker", "countDown", "(II[I)V"⟩,
  .methodLink "PackDesk$LengthMaker" 58 ⟨"PackDesk$LengthMaker", "mergeRound", "(III)I"⟩,
  .instanceMethod ⟨"PackDesk$LengthMaker", "mergeRound", "(III)I"⟩,
  .selects "PackDesk$LengthMaker" ⟨"PackDesk$LengthMaker", "mergeRound", "(III)I"⟩ ⟨"PackDesk$LengthMaker", "mergeRound", "(III)I"⟩]
noncomputable def tz_ps7 : List Nat := [113, 83, 107, 114, 127, 115, 116, 117, 555, 60, 173, 556, 73, 484, 557, 57, 559, 8, 561, 563, 565, 9, 567, 569, 10, 571, 573, 11, 579, 581, 13, 575, 577, 12]
/-- the words of PackDesk$Matcher, and their places -/
noncomputable def tz_tb8 : List Cond := [.methodLink "PackDesk$Matcher" 5 ⟨"java/lang/Object", "<init>", "()V"⟩,
  .instanceMethod ⟨"java/lang/Object", "<init>", "()V"⟩,
  .arrayClass .int,
  .fieldLink "PackDesk$Matcher" 11 "PackDesk$Matcher" "latest" "[I",
  .fieldLink "PackDesk$Matcher" 15 "PackDesk$Matcher" "earlier" "[I",
  .methodLink "PackDesk$Matcher" 18 ⟨"java/util/Arrays", "fill", "([II)V"⟩,
  .initialized "java/util/Arrays",
  .static ⟨"java/util/Arrays", "fill", "([II)V"⟩,
  .fieldLink "PackDesk$Matcher" 24 "PackDesk$Row" "size" "I",
  .fieldLink "PackDesk$Matcher" 30 "PackDesk$Row" "bytes" "[I",
  .methodLink "PackDesk$Matcher" 33 ⟨"PackDesk$Matcher", "spotOf", "([II)I"⟩,
  .initialized "PackDesk$Matcher",
  .static ⟨"PackDesk$Matcher", "spotOf", "([II)I"⟩,
  .methodLink "PackDesk$Matcher" 37 ⟨"java/lang/Math", "min", "(II)I"⟩,
  .initialized "java/lang/Math",
  .static ⟨"java/lang/Math", "min", "(II)I"⟩,
  .methodLink "PackDesk$Matcher" 43 ⟨"java/lang/Math", "max", "(II)I"⟩,
  .static ⟨"java/lang/Math", "max", "(II)I"⟩,
  .methodLink "PackDesk$Matcher" 46 ⟨"PackDesk$Matcher", "sameBytes", "([IIII)I"⟩,
  .static ⟨"PackDesk$Matcher", "sameBytes", "([IIII)I"⟩,
  .fieldLink "PackDesk$Matcher" 50 "PackDesk$Matcher" "distance" "I",
  .constant "PackDesk$Matcher" 53 (-1640531535 : Int32)]
noncomputable def tz_ps8 : List Nat := [267, 83, 107, 268, 269, 474, 60, 173, 99, 92, 475, 64, 476, 483, 73, 484, 486, 487, 489, 490, 271, 478]
/-- the words of PackDesk$Packer, and their places -/
noncomputable def tz_tb9 : List Cond := [.methodLink "PackDesk$Packer" 3 ⟨"java/lang/Object", "<init>", "()V"⟩,
  .instanceMethod ⟨"java/lang/Object", "<init>", "()V"⟩,
  .classLink "PackDesk$Packer" 9 "PackDesk$PartList",
  .instantiable "PackDesk$PartList" 2,
  .initialized "PackDesk$PartList",
  .methodLinkNest "PackDesk$Packer" 11 ⟨"PackDesk$PartList", "<init>", "()V"⟩ "PackDesk",
  .instanceMethod ⟨"PackDesk$PartList", "<init>", "()V"⟩,
  .fieldLink "PackDesk$Packer" 12 "PackDesk$Packer" "partList" "LPackDesk$PartList;",
  .classLink "PackDesk$Packer" 18 "PackDesk$BlockBook",
  .instantiable "PackDesk$BlockBook" 3,
  .initialized "PackDesk$BlockBook",
  .methodLinkNest "PackDesk$Packer" 20 ⟨"PackDesk$BlockBook", "<init>", "()V"⟩ "PackDesk",
  .instanceMethod ⟨"PackDesk$BlockBook", "<init>", "()V"⟩,
  .fieldLink "PackDesk$Packer" 21 "PackDesk$Packer" "book" "LPackDesk$BlockBook;",
  .classLink "PackDesk$Packer" 25 "PackDesk$Matcher",
  .instantiable "PackDesk$Matcher" 3,
  .initialized "PackDesk$Matcher",
  .methodLinkNest "PackDesk$Packer" 27 ⟨"PackDesk$Matcher", "<init>", "()V"⟩ "PackDesk",
  .instanceMethod ⟨"PackDesk$Matcher", "<init>", "()V"⟩,
  .fieldLink "PackDesk$Packer" 28 "PackDesk$Packer" "matcher" "LPackDesk$Matcher;",
  .classLink "PackDesk$Packer" 32 "PackDesk$CodeHead",
  .instantiable "PackDesk$CodeHead" 8,
  .initialized "PackDesk$CodeHead",
  .methodLinkNest "PackDesk$Packer" 34 ⟨"PackDesk$CodeHead", "<init>", "()V"⟩ "PackDesk",
  .instanceMethod ⟨"PackDesk$CodeHead", "<init>", "()V"⟩,
  .fieldLink "PackDesk$Packer" 35 "PackDesk$Packer" "head" "LPackDesk$CodeHead;",
  .arrayClass .int,
  .fieldLink "PackDesk$Packer" 39 "PackDesk$Packer" "literalComings" "[I",
  .fieldLink "PackDesk$Packer" 43 "PackDesk$Packer" "distanceComings" "[I",
  .fieldLink "PackDesk$Packer" 46 "PackDesk$Packer" "codes" "LPackDesk$CodeSet;",
  .fieldLink "PackDesk$Packer" 50 "PackDesk$Packer" "made" "LPackDesk$Row;",
  .fieldLink "PackDesk$Packer" 54 "PackDesk$Packer" "maker" "LPackDesk$LengthMaker;",
  .classLink "PackDesk$Packer" 58 "PackDesk$BitWriter",
  .instantiable "PackDesk$BitWriter" 3,
  .initialized "PackDesk$BitWriter",
  .methodLink "PackDesk$Packer" 60 ⟨"PackDesk$BitWriter", "<init>", "(LPackDesk$Row;)V"⟩,
  .instanceMethod ⟨"PackDesk$BitWriter", "<init>", "(LPackDesk$Row;)V"⟩,
  .fieldLink "PackDesk$Packer" 63 "PackDesk$Packer" "writer" "LPackDesk$BitWriter;",
  .methodLink "PackDesk$Packer" 67 ⟨"PackDesk$Packer", "split", "(LPackDesk$Row;)V"⟩,
  .initialized "PackDesk$Packer",
  .instanceMethod ⟨"PackDesk$Packer", "split", "(LPackDesk$Row;)V"⟩,
  .selects "PackDesk$Packer" ⟨"PackDesk$Packer", "split", "(LPackDesk$Row;)V"⟩ ⟨"PackDesk$Packer", "split", "(LPackDesk$Row;)V"⟩,
  .methodLink "PackDesk$Packer" 70 ⟨"PackDesk$BitWriter", "begin", "()V"⟩,
  .instanceMethod ⟨"PackDesk$BitWriter", "begin", "()V"⟩,
  .selects "PackDesk$BitWriter" ⟨"PackDesk$BitWriter", "begin", "()V"⟩ ⟨"PackDesk$BitWriter", "begin", "()V"⟩,
  .fieldLink "PackDesk$Packer" 73 "PackDesk$PartList" "count" "I",
  .methodLink "PackDesk$Packer" 77 ⟨"PackDesk$BlockBook", "begin", "(I)V"⟩,
  .instanceMethod ⟨"PackDesk$BlockBook", "begin", "(I)V"⟩,
  .selects "PackDesk$BlockBook" ⟨"PackDesk$BlockBook", "begin", "(I)V"⟩ ⟨"PackDesk$BlockBook", "begin", "(I)V"⟩,
  .fieldLink "PackDesk$Packer" 80 "PackDesk$BlockBook" "count" "I",
  .methodLink "PackDesk$Packer" 81 ⟨"java/lang/Math", "min", "(II)I"⟩,
  .initialized "java/lang/Math",
  .static ⟨"java/lang/Math", "min", "(II)I"⟩,
  .methodLink "PackDesk$Packer" 87 ⟨"PackDesk$Packer", "countBlock", "(II)V"⟩,
  .instanceMethod ⟨"PackDesk$Packer", "countBlock", "(II)V"⟩,
  .selects "PackDesk$Packer" ⟨"PackDesk$Packer", "countBlock", "(II)V"⟩ ⟨"PackDesk$Packer", "countBlock", "(II)V"⟩,
  .methodLink "PackDesk$Packer" 91 ⟨"PackDesk$BlockBook", "note", "(III)V"⟩,
  .instanceMethod ⟨"PackDesk$BlockBook", "note", "(III)V"⟩,
  .selects "PackDesk$BlockBook" ⟨"PackDesk$BlockBook", "note", "(III)V"⟩ ⟨"PackDesk$BlockBook", "note", "(III)V"⟩,
  .methodLink "PackDesk$Packer" 95 ⟨"PackDesk$Packer", "weighWays", "(I)V"⟩,
  .instanceMethod ⟨"PackDesk$Packer", "weighWays", "(I)V"⟩,
  .selects "PackDesk$Packer" ⟨"PackDesk$Packer", "weighWays", "(I)V"⟩ ⟨"PackDesk$Packer", "weighWays", "(I)V"⟩,
  .methodLink "PackDesk$Packer" 98 ⟨"PackDesk$BitWriter", "putBits", "(II)V"⟩,
  .instanceMethod ⟨"PackDesk$BitWriter", "putBits", "(II)V"⟩,
  .selects "PackDesk$BitWriter" ⟨"PackDesk$BitWriter", "putBits", "(II)V"⟩ ⟨"PackDesk$BitWriter", "putBits", "(II)V"⟩,
  .methodLink "PackDesk$Packer" 101 ⟨"PackDesk$Packer", "writeBlock", "(IIILPackDesk$Row;I)V"⟩,
  .instanceMethod ⟨"PackDesk$Packer", "writeBlock", "(IIILPackDesk$Row;I)V"⟩,
  .selects "PackDesk$Packer" ⟨"PackDesk$Packer", "writeBlock", "(IIILPackDesk$Row;I)V"⟩ ⟨"PackDesk$Packer", "writeBlock", "(IIILPackDesk$Row;I)V"⟩,
  .fieldLink "PackDesk$Packer" 105 "PackDesk$Packer" "bytesTold" "I",
  .methodLink "PackDesk$Packer" 108 ⟨"PackDesk$BitWriter", "fillByte", "()V"⟩,
  .instanceMethod ⟨"PackDesk$BitWriter", "fillByte", "()V"⟩,
  .selects "PackDesk$BitWriter" ⟨"PackDesk$BitWriter", "fillByte", "()V"⟩ ⟨"PackDesk$BitWriter", "fillByte", "()V"⟩,
  .methodLink "PackDesk$Packer" 111 ⟨"PackDesk$Matcher", "chain", "(LPackDesk$Row;)V"⟩,
  .instanceMethod ⟨"PackDesk$Matcher", "chain", "(LPackDesk$Row;)V"⟩,
  .selects "PackDesk$Matcher" ⟨"PackDesk$Matcher", "chain", "(LPackDesk$Row;)V"⟩ ⟨"PackDesk$Matcher", "chain", "(LPackDesk$Row;)V"⟩,
  .methodLink "PackDesk$Packer" 114 ⟨"PackDesk$Matcher", "search", "(LPackDesk$Row;II)I"⟩,
  .instanceMethod ⟨"PackDesk$Matcher", "search", "(LPackDesk$Row;II)I"⟩,
  .selects "PackDesk$Matcher" ⟨"PackDesk$Matcher", "search", "(LPackDesk$Row;II)I"⟩ ⟨"PackDesk$Matcher", "search", "(LPackDesk$Row;II)I"⟩,
  .fieldLink "PackDesk$Packer" 118 "PackDesk$Matcher" "distance" "I",
  .fieldLink "PackDesk$Packer" 121 "PackDesk$Row" "size" "I",
  .fieldLink "PackDesk$Packer" 126 "PackDesk$Row" "bytes" "[I",
  .methodLink "PackDesk$Packer" 129 ⟨"PackDesk$PartList", "add", "(II)V"⟩,
  .instanceMethod ⟨"PackDesk$PartList", "add", "(II)V"⟩,
  .selects "PackDesk$PartList" ⟨"PackDesk$PartList", "add", "(II)V"⟩ ⟨"PackDesk$PartList", "add", "(II)V"⟩,
  .methodLink "PackDesk$Packer" 132 ⟨"java/util/Arrays", "fill", "([II)V"⟩,
  .initialized "java/util/Arrays",
  .static ⟨"java/util/Arrays", "fill", "([II)V"⟩,
  .fieldLink "PackDesk$Packer" 138 "PackDesk$Packer" "extraBits" "I",
  .methodLink "PackDesk$Packer" 141 ⟨"PackDesk$PartList", "amount", "(I)I"⟩,
  .instanceMethod ⟨"PackDesk$PartList", "amount", "(I)I"⟩,
  .selects "PackDesk$PartList" ⟨"PackDesk$PartList", "amount", "(I)I"⟩ ⟨"PackDesk$PartList", "amount", "(I)I"⟩,
  .methodLink "PackDesk$Packer" 145 ⟨"PackDesk$PartList", "distance", "(I)I"⟩,
  .instanceMethod ⟨"PackDesk$PartList", "distance", "(I)I"⟩,
  .selects "PackDesk$PartList" ⟨"PackDesk$PartList", "distance", "(I)I"⟩ ⟨"PackDesk$PartList", "distance", "(I)I"⟩,
  .methodLink "PackDesk$Packer" 147 ⟨"PackDesk$Packer", "countPart", "(II)V"⟩,
  .instanceMethod ⟨"PackDesk$Packer", "countPart", "(II)V"⟩,
  .selects "PackDesk$Packer" ⟨"PackDesk$Packer", "countPart", "(II)V"⟩ ⟨"PackDesk$Packer", "countPart", "(II)V"⟩,
  .fieldLinkNest "PackDesk$Packer" 150 "PackDesk" "LENGTH_BASE" "[I" "PackDesk",
  .methodLinkNest "PackDesk$Packer" 153 ⟨"PackDesk", "kindOf", "([II)I"⟩ "PackDesk",
  .initialized "PackDesk",
  .static ⟨"PackDesk", "kindOf", "([II)I"⟩,
  .fieldLinkNest "PackDesk$Packer" 157 "PackDesk" "DISTANCE_BASE" "[I" "PackDesk",
  .fieldLinkNest "PackDesk$Packer" 160 "PackDesk" "LENGTH_EXTRA" "[I" "PackDesk",
  .fieldLinkNest "PackDesk$Packer" 163 "PackDesk" "DISTANCE_EXTRA" "[I" "PackDesk",
  .fieldLink "PackDesk$Packer" 166 "PackDesk$CodeSet" "literals" "LPackDesk$Code;",
  .fieldLink "PackDesk$Packer" 172 "PackDesk$Code" "lengths" "[I",
  .methodLink "PackDesk$Packer" 177 ⟨"PackDesk$LengthMaker", "make", "([III[I)V"⟩,
  .initialized "PackDesk$LengthMaker",
  .instanceMethod ⟨"PackDesk$LengthMaker", "make", "([III[I)V"⟩,
  .selects "PackDesk$LengthMaker" ⟨"PackDesk$LengthMaker", "make", "([III[I)V"⟩ ⟨"PackDesk$LengthMaker", "make", "([III[I)V"⟩,
  .fieldLink "PackDesk$Packer" 183 "PackDesk$CodeSet" "distances" "LPackDesk$Code;",
  .methodLinkNest "PackDesk$Packer" 186 ⟨"PackDesk", "weightedSum", "([I[II)I"⟩ "PackDesk",
  .static ⟨"PackDesk", "weightedSum", "([I[II)I"⟩,
  .methodLink "PackDesk$Packer" 190 ⟨"PackDesk$CodeHead", "plan", "(LPackDesk$CodeSet;LPackDesk$LengthMaker;)I"⟩,
  .instanceMethod ⟨"PackDesk$CodeHead", "plan", "(LPackDesk$CodeSet;LPackDesk$LengthMaker;)I"⟩,
  .selects "PackDesk$CodeHead" ⟨"PackDesk$CodeHead", "plan", "(LPackDesk$CodeSet;LPackDesk$LengthMaker;)I"⟩ ⟨"PackDesk$CodeHead", "plan", "(LPackDesk$CodeSet;LPackDesk$LengthMaker;)I"⟩,
  .fieldLink "PackDesk$Packer" 194 "PackDesk$CodeSet" "fixedLiterals" "LPackDesk$Code;",
  .fieldLink "PackDesk$Packer" 197 "PackDesk$CodeSet" "fixedDistances" "LPackDesk$Code;",
  .methodLink "PackDesk$Packer" 200 ⟨"PackDesk$BitWriter", "missingBehind", "(I)I"⟩,
  .instanceMethod ⟨"PackDesk$BitWriter", "missingBehind", "(I)I"⟩,
  .selects "PackDesk$BitWriter" ⟨"PackDesk$BitWriter", "missingBehind", "(I)I"⟩ ⟨"PackDesk$BitWriter", "missingBehind", "(I)I"⟩,
  .methodLink "PackDesk$Packer" 203 ⟨"PackDesk$BlockBook", "fact", "(II)I"⟩,
  .instanceMethod ⟨"PackDesk$BlockBook", "fact", "(II)I"⟩,
  .selects "PackDesk$BlockBook" ⟨"PackDesk$BlockBook", "fact", "(II)I"⟩ ⟨"PackDesk$BlockBook", "fact", "(II)I"⟩,
  .methodLink "PackDesk$Packer" 206 ⟨"PackDesk$Packer", "writeStored", "(LPackDesk$Row;I)V"⟩,
  .instanceMethod ⟨"PackDesk$Packer", "writeStored", "(LPackDesk$Row;I)V"⟩,
  .selects "PackDesk$Packer" ⟨"PackDesk$Packer", "writeStored", "(LPackDesk$Row;I)V"⟩ ⟨"PackDesk$Packer", "writeStored", "(LPackDesk$Row;I)V"⟩,
  .methodLink "PackDesk$Packer" 210 ⟨"PackDesk$Packer", "writeParts", "(IILPackDesk$Code;LPackDesk$Code;)V"⟩,
  .instanceMethod ⟨"PackDesk$Packer", "writeParts", "(IILPackDesk$Code;LPackDesk$Code;)V"⟩,
  .selects "PackDesk$Packer" ⟨"PackDesk$Packer", "writeParts", "(IILPackDesk$Code;LPackDesk$Code;)V"⟩ ⟨"PackDesk$Packer", "writeParts", "(IILPackDesk$Code;LPackDesk$Code;)V"⟩,
  .methodLink "PackDesk$Packer" 214 ⟨"PackDesk$BlockBook", "keepCodes", "(ILPackDesk$CodeSet;)V"⟩,
  .instanceMethod ⟨"PackDesk$BlockBook", "keepCodes", "(ILPackDesk$CodeSet;)V"⟩,
  .selects "PackDesk$BlockBook" ⟨"PackDesk$BlockBook", "keepCodes", "(ILPackDesk$CodeSet;)V"⟩ ⟨"PackDesk$BlockBook", "keepCodes", "(ILPackDesk$CodeSet;)V"⟩,
  .methodLink "PackDesk$Packer" 218 ⟨"PackDesk$Code", "settle", "()V"⟩,
  .initialized "PackDesk$Code",
  .instanceMethod ⟨"PackDesk$Code", "settle", "()V"⟩,
  .selects "PackDesk$Code" ⟨"PackDesk$Code", "settle", "()V"⟩ ⟨"PackDesk$Code", "settle", "()V"⟩,
  .fieldLink "PackDesk$Packer" 221 "PackDesk$CodeSet" "alphabet" "LPackDesk$Code;",
  .methodLink "PackDesk$Packer" 224 ⟨"PackDesk$CodeHead", "write", "(LPackDesk$Code;LPackDesk$BitWriter;)V"⟩,
  .instanceMethod ⟨"PackDesk$CodeHead", "write", "(LPackDesk$Code;LPackDesk$BitWriter;)V"⟩,
  .selects "PackDesk$CodeHead" ⟨"PackDesk$CodeHead", "write", "(LPackDesk$Code;LPackDesk$BitWriter;)V"⟩ ⟨"PackDesk$CodeHead", "write", "(LPackDesk$Code;LPackDesk$BitWriter;)V"⟩,
  .constant "PackDesk$Packer" 228 (65535 : Int32),
  .methodLink "PackDesk$Packer" 229 ⟨"PackDesk$Row", "has", "(I)Z"⟩,
  .initialized "PackDesk$Row",
  .instanceMethod ⟨"PackDesk$Row", "has", "(I)Z"⟩,
  .selects "PackDesk$Row" ⟨"PackDesk$Row", "has", "(I)Z"⟩ ⟨"PackDesk$Row", "has", "(I)Z"⟩,
  .methodLink "PackDesk$Packer" 233 ⟨"PackDesk$BitWriter", "putSymbol", "(LPackDesk$Code;I)V"⟩,
  .instanceMethod ⟨"PackDesk$BitWriter", "putSymbol", "(LPackDesk$Code;I)V"⟩,
  .selects "PackDesk$BitWriter" ⟨"PackDesk$BitWriter", "putSymbol", "(LPackDesk$Code;I)V"⟩ ⟨"PackDesk$BitWriter", "putSymbol", "(LPackDesk$Code;I)V"⟩]
noncomputable def tz_ps9 : List Nat := [228, 83, 229, 230, 62, 231, 232, 328, 244, 245, 63, 246, 247, 330, 262, 263, 64, 264, 265, 335, 279, 280, 65, 281, 282, 336, 107, 337, 338, 332, 326, 333, 310, 311, 66, 312, 313, 334, 466, 61, 468, 3, 496, 497, 498, 237, 500, 501, 502, 253, 506, 73, 484, 507, 509, 4, 539, 540, 541, 547, 549, 7, 637, 638, 639, 642, 644, 19, 340, 654, 655, 656, 470, 471, 472, 479, 480, 481, 270, 101, 93, 492, 493, 494, 511, 60, 173, 339, 512, 513, 514, 520, 521, 522, 524, 526, 5, 528, 530, 55, 531, 533, 535, 537, 201, 146, 551, 57, 552, 553, 206, 583, 584, 586, 587, 588, 193, 196, 633, 634, 635, 646, 647, 648, 650, 652, 20, 662, 664, 21, 670, 671, 672, 675, 59, 176, 177, 211, 676, 677, 678, 660, 661, 56, 449, 450, 666, 667, 668]
/-- the words of PackDesk$PartList, and their places -/
noncomputable def tz_tb10 : List Cond := [.methodLink "PackDesk$PartList" 3 ⟨"java/lang/Object", "<init>", "()V"⟩,
  .instanceMethod ⟨"java/lang/Object", "<init>", "()V"⟩,
  .arrayClass .int,
  .fieldLink "PackDesk$PartList" 9 "PackDesk$PartList" "entries" "[I",
  .fieldLink "PackDesk$PartList" 15 "PackDesk$PartList" "count" "I",
  .methodLink "PackDesk$PartList" 19 ⟨"PackDesk$PartList", "has", "(I)Z"⟩,
  .initialized "PackDesk$PartList",
  .instanceMethod ⟨"PackDesk$PartList", "has", "(I)Z"⟩,
  .selects "PackDesk$PartList" ⟨"PackDesk$PartList", "has", "(I)Z"⟩ ⟨"PackDesk$PartList", "has", "(I)Z"⟩]
noncomputable def tz_ps10 : List Nat := [234, 83, 107, 235, 236, 516, 62, 517, 518]
/-- the words of PackDesk$Row, and their places -/
noncomputable def tz_tb11 : List Cond := [.methodLink "PackDesk$Row" 3 ⟨"java/lang/Object", "<init>", "()V"⟩,
  .instanceMethod ⟨"java/lang/Object", "<init>", "()V"⟩,
  .arrayClass .int,
  .fieldLink "PackDesk$Row" 9 "PackDesk$Row" "bytes" "[I",
  .fieldLink "PackDesk$Row" 15 "PackDesk$Row" "size" "I",
  .methodLink "PackDesk$Row" 19 ⟨"java/lang/Math", "min", "(II)I"⟩,
  .initialized "java/lang/Math",
  .static ⟨"java/lang/Math", "min", "(II)I"⟩,
  .methodLink "PackDesk$Row" 25 ⟨"java/lang/Math", "max", "(II)I"⟩,
  .static ⟨"java/lang/Math", "max", "(II)I"⟩,
  .methodLink "PackDesk$Row" 28 ⟨"java/lang/System", "arraycopy", "(Ljava/lang/Object;ILjava/lang/Object;II)V"⟩,
  .initialized "java/lang/System",
  .static ⟨"java/lang/System", "arraycopy", "(Ljava/lang/Object;ILjava/lang/Object;II)V"⟩,
  .native ⟨"java/lang/System", "arraycopy", "(Ljava/lang/Object;ILjava/lang/Object;II)V"⟩]
noncomputable def tz_ps11 : List Nat := [90, 83, 107, 91, 98, 686, 73, 484, 687, 487, 688, 74, 595, 596]
/-- the words of PackDesk$Unpacker, and their places -/
noncomputable def tz_tb12 : List Cond := [.methodLink "PackDesk$Unpacker" 3 ⟨"java/lang/Object", "<init>", "()V"⟩,
  .instanceMethod ⟨"java/lang/Object", "<init>", "()V"⟩,
  .fieldLink "PackDesk$Unpacker" 9 "PackDesk$Unpacker" "faultPlace" "I",
  .arrayClass .int,
  .fieldLink "PackDesk$Unpacker" 15 "PackDesk$Unpacker" "row" "[I",
  .fieldLink "PackDesk$Unpacker" 19 "PackDesk$Unpacker" "codes" "LPackDesk$CodeSet;",
  .fieldLink "PackDesk$Unpacker" 23 "PackDesk$Unpacker" "made" "LPackDesk$Row;",
  .fieldLink "PackDesk$Unpacker" 27 "PackDesk$Row" "size" "I",
  .fieldLink "PackDesk$Unpacker" 32 "PackDesk$Unpacker" "isDone" "Z",
  .fieldLink "PackDesk$Unpacker" 36 "PackDesk$Unpacker" "faultMet" "I",
  .fieldLink "PackDesk$Unpacker" 39 "PackDesk$Unpacker" "position" "I",
  .methodLink "PackDesk$Unpacker" 42 ⟨"PackDesk$Unpacker", "takeBits", "(LPackDesk$Row;I)I"⟩,
  .initialized "PackDesk$Unpacker",
  .instanceMethod ⟨"PackDesk$Unpacker", "takeBits", "(LPackDesk$Row;I)I"⟩,
  .selects "PackDesk$Unpacker" ⟨"PackDesk$Unpacker", "takeBits", "(LPackDesk$Row;I)I"⟩ ⟨"PackDesk$Unpacker", "takeBits", "(LPackDesk$Row;I)I"⟩,
  .methodLink "PackDesk$Unpacker" 46 ⟨"PackDesk$Unpacker", "readStored", "(LPackDesk$Row;)V"⟩,
  .instanceMethod ⟨"PackDesk$Unpacker", "readStored", "(LPackDesk$Row;)V"⟩,
  .selects "PackDesk$Unpacker" ⟨"PackDesk$Unpacker", "readStored", "(LPackDesk$Row;)V"⟩ ⟨"PackDesk$Unpacker", "readStored", "(LPackDesk$Row;)V"⟩,
  .fieldLink "PackDesk$Unpacker" 50 "PackDesk$CodeSet" "fixedLiterals" "LPackDesk$Code;",
  .fieldLink "PackDesk$Unpacker" 56 "PackDesk$CodeSet" "fixedDistances" "LPackDesk$Code;",
  .methodLink "PackDesk$Unpacker" 59 ⟨"PackDesk$Unpacker", "readParts", "(LPackDesk$Row;LPackDesk$Code;LPackDesk$Code;)V"⟩,
  .instanceMethod ⟨"PackDesk$Unpacker", "readParts", "(LPackDesk$Row;LPackDesk$Code;LPackDesk$Code;)V"⟩,
  .selects "PackDesk$Unpacker" ⟨"PackDesk$Unpacker", "readParts", "(LPackDesk$Row;LPackDesk$Code;LPackDesk$Code;)V"⟩ ⟨"PackDesk$Unpacker", "readParts", "(LPackDesk$Row;LPackDesk$Code;LPackDesk$Code;)V"⟩,
  .methodLink "PackDesk$Unpacker" 63 ⟨"PackDesk$Unpacker", "readHead", "(LPackDesk$Row;)V"⟩,
  .instanceMethod ⟨"PackDesk$Unpacker", "readHead", "(LPackDesk$Row;)V"⟩,
  .selects "PackDesk$Unpacker" ⟨"PackDesk$Unpacker", "readHead", "(LPackDesk$Row;)V"⟩ ⟨"PackDesk$Unpacker", "readHead", "(LPackDesk$Row;)V"⟩,
  .fieldLink "PackDesk$Unpacker" 66 "PackDesk$CodeSet" "literals" "LPackDesk$Code;",
  .fieldLink "PackDesk$Unpacker" 69 "PackDesk$CodeSet" "distances" "LPackDesk$Code;",
  .methodLink "PackDesk$Unpacker" 72 ⟨"PackDesk$Unpacker", "fail", "(I)V"⟩,
  .instanceMethod ⟨"PackDesk$Unpacker", "fail", "(I)V"⟩,
  .selects "PackDesk$Unpacker" ⟨"PackDesk$Unpacker", "fail", "(I)V"⟩ ⟨"PackDesk$Unpacker", "fail", "(I)V"⟩,
  .constant "PackDesk$Unpacker" 76 (65535 : Int32),
  .methodLink "PackDesk$Unpacker" 77 ⟨"PackDesk$Unpacker", "putByte", "(I)V"⟩,
  .instanceMethod ⟨"PackDesk$Unpacker", "putByte", "(I)V"⟩,
  .selects "PackDesk$Unpacker" ⟨"PackDesk$Unpacker", "putByte", "(I)V"⟩ ⟨"PackDesk$Unpacker", "putByte", "(I)V"⟩,
  .methodLink "PackDesk$Unpacker" 80 ⟨"PackDesk$Unpacker", "readAlphabet", "(LPackDesk$Row;I)V"⟩,
  .instanceMethod ⟨"PackDesk$Unpacker", "readAlphabet", "(LPackDesk$Row;I)V"⟩,
  .selects "PackDesk$Unpacker" ⟨"PackDesk$Unpacker", "readAlphabet", "(LPackDesk$Row;I)V"⟩ ⟨"PackDesk$Unpacker", "readAlphabet", "(LPackDesk$Row;I)V"⟩,
  .methodLink "PackDesk$Unpacker" 84 ⟨"PackDesk$Unpacker", "readRow", "(LPackDesk$Row;I)V"⟩,
  .instanceMethod ⟨"PackDesk$Unpacker", "readRow", "(LPackDesk$Row;I)V"⟩,
  .selects "PackDesk$Unpacker" ⟨"PackDesk$Unpacker", "readRow", "(LPackDesk$Row;I)V"⟩ ⟨"PackDesk$Unpacker", "readRow", "(LPackDesk$Row;I)V"⟩,
  .methodLink "PackDesk$Unpacker" 87 ⟨"PackDesk$Code", "takeLengths", "([III)V"⟩,
  .initialized "PackDesk$Code",
  .instanceMethod ⟨"PackDesk$Code", "takeLengths", "([III)V"⟩,
  .selects "PackDesk$Code" ⟨"PackDesk$Code", "takeLengths", "([III)V"⟩ ⟨"PackDesk$Code", "takeLengths", "([III)V"⟩,
  .methodLink "PackDesk$Unpacker" 93 ⟨"PackDesk$Code", "settle", "()V"⟩,
  .instanceMethod ⟨"PackDesk$Code", "settle", "()V"⟩,
  .selects "PackDesk$Code" ⟨"PackDesk$Code", "settle", "()V"⟩ ⟨"PackDesk$Code", "settle", "()V"⟩,
  .methodLink "PackDesk$Unpacker" 96 ⟨"PackDesk$Code", "isWhole", "()Z"⟩,
  .instanceMethod ⟨"PackDesk$Code", "isWhole", "()Z"⟩,
  .selects "PackDesk$Code" ⟨"PackDesk$Code", "isWhole", "()Z"⟩ ⟨"PackDesk$Code", "isWhole", "()Z"⟩,
  .fieldLink "PackDesk$Unpacker" 100 "PackDesk$Code" "lengths" "[I",
  .methodLink "PackDesk$Unpacker" 103 ⟨"PackDesk$Code", "isOneBitAtMost", "()Z"⟩,
  .instanceMethod ⟨"PackDesk$Code", "isOneBitAtMost", "()Z"⟩,
  .selects "PackDesk$Code" ⟨"PackDesk$Code", "isOneBitAtMost", "()Z"⟩ ⟨"PackDesk$Code", "isOneBitAtMost", "()Z"⟩,
  .fieldLink "PackDesk$Unpacker" 106 "PackDesk$CodeSet" "alphabet" "LPackDesk$Code;",
  .methodLink "PackDesk$Unpacker" 109 ⟨"java/util/Arrays", "fill", "([II)V"⟩,
  .initialized "java/util/Arrays",
  .static ⟨"java/util/Arrays", "fill", "([II)V"⟩,
  .fieldLinkNest "PackDesk$Unpacker" 115 "PackDesk" "ALPHABET_ORDER" "[I" "PackDesk",
  .methodLink "PackDesk$Unpacker" 118 ⟨"PackDesk$Unpacker", "takeSymbol", "(LPackDesk$Row;LPackDesk$Code;)I"⟩,
  .instanceMethod ⟨"PackDesk$Unpacker", "takeSymbol", "(LPackDesk$Row;LPackDesk$Code;)I"⟩,
  .selects "PackDesk$Unpacker" ⟨"PackDesk$Unpacker", "takeSymbol", "(LPackDesk$Row;LPackDesk$Code;)I"⟩ ⟨"PackDesk$Unpacker", "takeSymbol", "(LPackDesk$Row;LPackDesk$Code;)I"⟩,
  .fieldLinkNest "PackDesk$Unpacker" 122 "PackDesk" "REPEAT_BASE" "[I" "PackDesk",
  .fieldLinkNest "PackDesk$Unpacker" 125 "PackDesk" "REPEAT_EXTRA" "[I" "PackDesk",
  .constant "PackDesk$Unpacker" 128 (48000 : Int32),
  .methodLink "PackDesk$Unpacker" 129 ⟨"PackDesk$Unpacker", "readMatch", "(LPackDesk$Row;ILPackDesk$Code;)V"⟩,
  .instanceMethod ⟨"PackDesk$Unpacker", "readMatch", "(LPackDesk$Row;ILPackDesk$Code;)V"⟩,
  .selects "PackDesk$Unpacker" ⟨"PackDesk$Unpacker", "readMatch", "(LPackDesk$Row;ILPackDesk$Code;)V"⟩ ⟨"PackDesk$Unpacker", "readMatch", "(LPackDesk$Row;ILPackDesk$Code;)V"⟩,
  .fieldLinkNest "PackDesk$Unpacker" 133 "PackDesk" "LENGTH_BASE" "[I" "PackDesk",
  .fieldLinkNest "PackDesk$Unpacker" 136 "PackDesk" "LENGTH_EXTRA" "[I" "PackDesk",
  .fieldLinkNest "PackDesk$Unpacker" 139 "PackDesk" "DISTANCE_BASE" "[I" "PackDesk",
  .fieldLinkNest "PackDesk$Unpacker" 142 "PackDesk" "DISTANCE_EXTRA" "[I" "PackDesk",
  .fieldLink "PackDesk$Unpacker" 145 "PackDesk$Row" "bytes" "[I",
  .methodLink "PackDesk$Unpacker" 148 ⟨"PackDesk$Row", "add", "(I)V"⟩,
  .initialized "PackDesk$Row",
  .instanceMethod ⟨"PackDesk$Row", "add", "(I)V"⟩,
  .selects "PackDesk$Row" ⟨"PackDesk$Row", "add", "(I)V"⟩ ⟨"PackDesk$Row", "add", "(I)V"⟩,
  .fieldLink "PackDesk$Unpacker" 151 "PackDesk$Code" "coded" "I",
  .fieldLink "PackDesk$Unpacker" 154 "PackDesk$Code" "counts" "[I",
  .fieldLink "PackDesk$Unpacker" 157 "PackDesk$Code" "inTurn" "[I",
  .methodLink "PackDesk$Unpacker" 160 ⟨"PackDesk$Row", "has", "(I)Z"⟩,
  .instanceMethod ⟨"PackDesk$Row", "has", "(I)Z"⟩,
  .selects "PackDesk$Row" ⟨"PackDesk$Row", "has", "(I)Z"⟩ ⟨"PackDesk$Row", "has", "(I)Z"⟩]
noncomputable def tz_ps12 : List Nat := [371, 83, 378, 107, 381, 380, 372, 97, 374, 376, 382, 831, 67, 833, 23, 856, 858, 25, 192, 195, 866, 868, 27, 883, 885, 30, 199, 204, 836, 838, 24, 860, 861, 863, 26, 887, 889, 31, 898, 900, 32, 904, 59, 905, 906, 893, 176, 177, 894, 895, 896, 144, 908, 909, 910, 210, 891, 60, 173, 892, 871, 873, 28, 902, 903, 870, 875, 877, 29, 879, 880, 881, 882, 95, 865, 56, 436, 437, 154, 150, 152, 835, 449, 450]
/-- the words of PackDeskLaw, and their places -/
noncomputable def tz_tb13 : List Cond := [.methodLink "PackDeskLaw" 7 ⟨"PackDesk", "take", "()I"⟩,
  .initialized "PackDesk",
  .instanceMethod ⟨"PackDesk", "take", "()I"⟩,
  .selects "PackDesk" ⟨"PackDesk", "take", "()I"⟩ ⟨"PackDesk", "take", "()I"⟩,
  .methodLink "PackDeskLaw" 15 ⟨"PackDesk", "unpack", "()I"⟩,
  .instanceMethod ⟨"PackDesk", "unpack", "()I"⟩,
  .selects "PackDesk" ⟨"PackDesk", "unpack", "()I"⟩ ⟨"PackDesk", "unpack", "()I"⟩,
  .methodLink "PackDeskLaw" 20 ⟨"PackDesk", "weigh", "(II)V"⟩,
  .instanceMethod ⟨"PackDesk", "weigh", "(II)V"⟩,
  .selects "PackDesk" ⟨"PackDesk", "weigh", "(II)V"⟩ ⟨"PackDesk", "weigh", "(II)V"⟩,
  .methodLink "PackDeskLaw" 26 ⟨"PackDesk", "measure", "(I)I"⟩,
  .instanceMethod ⟨"PackDesk", "measure", "(I)I"⟩,
  .selects "PackDesk" ⟨"PackDesk", "measure", "(I)I"⟩ ⟨"PackDesk", "measure", "(I)I"⟩,
  .classLink "PackDeskLaw" 8 "PackDesk",
  .instantiable "PackDesk" 8,
  .methodLink "PackDeskLaw" 30 ⟨"PackDesk", "<init>", "()V"⟩,
  .instanceMethod ⟨"PackDesk", "<init>", "()V"⟩,
  .classLink "PackDeskLaw" 31 "PackDeskModel",
  .instantiable "PackDeskModel" 70,
  .initialized "PackDeskModel",
  .methodLink "PackDeskLaw" 33 ⟨"PackDeskModel", "<init>", "()V"⟩,
  .instanceMethod ⟨"PackDeskModel", "<init>", "()V"⟩,
  .arrayClass .long,
  .methodLink "PackDeskLaw" 34 ⟨"PackDesk", "feed", "(IIIII)V"⟩,
  .instanceMethod ⟨"PackDesk", "feed", "(IIIII)V"⟩,
  .selects "PackDesk" ⟨"PackDesk", "feed", "(IIIII)V"⟩ ⟨"PackDesk", "feed", "(IIIII)V"⟩,
  .methodLink "PackDeskLaw" 38 ⟨"PackDeskModel", "feed", "(IIIII)V"⟩,
  .instanceMethod ⟨"PackDeskModel", "feed", "(IIIII)V"⟩,
  .selects "PackDeskModel" ⟨"PackDeskModel", "feed", "(IIIII)V"⟩ ⟨"PackDeskModel", "feed", "(IIIII)V"⟩,
  .methodLink "PackDeskLaw" 39 ⟨"PackDesk", "end", "(II)I"⟩,
  .instanceMethod ⟨"PackDesk", "end", "(II)I"⟩,
  .selects "PackDesk" ⟨"PackDesk", "end", "(II)I"⟩ ⟨"PackDesk", "end", "(II)I"⟩,
  .methodLink "PackDeskLaw" 43 ⟨"PackDeskModel", "end", "(II)I"⟩,
  .instanceMethod ⟨"PackDeskModel", "end", "(II)I"⟩,
  .selects "PackDeskModel" ⟨"PackDeskModel", "end", "(II)I"⟩ ⟨"PackDeskModel", "end", "(II)I"⟩,
  .methodLink "PackDeskLaw" 44 ⟨"PackDesk", "cut", "(I)Z"⟩,
  .instanceMethod ⟨"PackDesk", "cut", "(I)Z"⟩,
  .selects "PackDesk" ⟨"PackDesk", "cut", "(I)Z"⟩ ⟨"PackDesk", "cut", "(I)Z"⟩,
  .methodLink "PackDeskLaw" 48 ⟨"PackDeskModel", "cut", "(I)Z"⟩,
  .instanceMethod ⟨"PackDeskModel", "cut", "(I)Z"⟩,
  .selects "PackDeskModel" ⟨"PackDeskModel", "cut", "(I)Z"⟩ ⟨"PackDeskModel", "cut", "(I)Z"⟩,
  .methodLink "PackDeskLaw" 49 ⟨"PackDesk", "flip", "(II)Z"⟩,
  .instanceMethod ⟨"PackDesk", "flip", "(II)Z"⟩,
  .selects "PackDesk" ⟨"PackDesk", "flip", "(II)Z"⟩ ⟨"PackDesk", "flip", "(II)Z"⟩,
  .methodLink "PackDeskLaw" 53 ⟨"PackDeskModel", "flip", "(II)Z"⟩,
  .instanceMethod ⟨"PackDeskModel", "flip", "(II)Z"⟩,
  .selects "PackDeskModel" ⟨"PackDeskModel", "flip", "(II)Z"⟩ ⟨"PackDeskModel", "flip", "(II)Z"⟩,
  .methodLink "PackDeskLaw" 54 ⟨"PackDeskLaw", "take", "(LPackDesk;[J)I"⟩,
  .initialized "PackDeskLaw",
  .static ⟨"PackDeskLaw", "take", "(LPackDesk;[J)I"⟩,
  .methodLink "PackDeskLaw" 59 ⟨"PackDeskModel", "take", "()I"⟩,
  .instanceMethod ⟨"PackDeskModel", "take", "()I"⟩,
  .selects "PackDeskModel" ⟨"PackDeskModel", "take", "()I"⟩ ⟨"PackDeskModel", "take", "()I"⟩,
  .methodLink "PackDeskLaw" 60 ⟨"PackDesk", "crc", "()I"⟩,
  .instanceMethod ⟨"PackDesk", "crc", "()I"⟩,
  .selects "PackDesk" ⟨"PackDesk", "crc", "()I"⟩ ⟨"PackDesk", "crc", "()I"⟩,
  .methodLink "PackDeskLaw" 63 ⟨"PackDeskModel", "crc", "()I"⟩,
  .instanceMethod ⟨"PackDeskModel", "crc", "()I"⟩,
  .selects "PackDeskModel" ⟨"PackDeskModel", "crc", "()I"⟩ ⟨"PackDeskModel", "crc", "()I"⟩,
  .methodLink "PackDeskLaw" 64 ⟨"PackDesk", "pack", "()I"⟩,
  .instanceMethod ⟨"PackDesk", "pack", "()I"⟩,
  .selects "PackDesk" ⟨"PackDesk", "pack", "()I"⟩ ⟨"PackDesk", "pack", "()I"⟩,
  .methodLink "PackDeskLaw" 67 ⟨"PackDeskModel", "pack", "()I"⟩,
  .instanceMethod ⟨"PackDeskModel", "pack", "()I"⟩,
  .selects "PackDeskModel" ⟨"PackDeskModel", "pack", "()I"⟩ ⟨"PackDeskModel", "pack", "()I"⟩,
  .methodLink "PackDeskLaw" 68 ⟨"PackDesk", "parts", "()I"⟩,
  .instanceMethod ⟨"PackDesk", "parts", "()I"⟩,
  .selects "PackDesk" ⟨"PackDesk", "parts", "()I"⟩ ⟨"PackDesk", "parts", "()I"⟩,
  .methodLink "PackDeskLaw" 71 ⟨"PackDeskModel", "parts", "()I"⟩,
  .instanceMethod ⟨"PackDeskModel", "parts", "()I"⟩,
  .selects "PackDeskModel" ⟨"PackDeskModel", "parts", "()I"⟩ ⟨"PackDeskModel", "parts", "()I"⟩,
  .methodLink "PackDeskLaw" 72 ⟨"PackDesk", "part", "(II)I"⟩,
  .instanceMethod ⟨"PackDesk", "part", "(II)I"⟩,
  .selects "PackDesk" ⟨"PackDesk", "part", "(II)I"⟩ ⟨"PackDesk", "part", "(II)I"⟩,
  .methodLink "PackDeskLaw" 75 ⟨"PackDeskModel", "part", "(II)I"⟩,
  .instanceMethod ⟨"PackDeskModel", "part", "(II)I"⟩,
  .selects "PackDeskModel" ⟨"PackDeskModel", "part", "(II)I"⟩ ⟨"PackDeskModel", "part", "(II)I"⟩,
  .methodLink "PackDeskLaw" 76 ⟨"PackDesk", "blocks", "()I"⟩,
  .instanceMethod ⟨"PackDesk", "blocks", "()I"⟩,
  .selects "PackDesk" ⟨"PackDesk", "blocks", "()I"⟩ ⟨"PackDesk", "blocks", "()I"⟩,
  .methodLink "PackDeskLaw" 79 ⟨"PackDeskModel", "blocks", "()I"⟩,
  .instanceMethod ⟨"PackDeskModel", "blocks", "()I"⟩,
  .selects "PackDeskModel" ⟨"PackDeskModel", "blocks", "()I"⟩ ⟨"PackDeskModel", "blocks", "()I"⟩,
  .methodLink "PackDeskLaw" 80 ⟨"PackDesk", "block", "(II)I"⟩,
  .instanceMethod ⟨"PackDesk", "block", "(II)I"⟩,
  .selects "PackDesk" ⟨"PackDesk", "block", "(II)I"⟩ ⟨"PackDesk", "block", "(II)I"⟩,
  .methodLink "PackDeskLaw" 83 ⟨"PackDeskModel", "block", "(II)I"⟩,
  .instanceMethod ⟨"PackDeskModel", "block", "(II)I"⟩,
  .selects "PackDeskModel" ⟨"PackDeskModel", "block", "(II)I"⟩ ⟨"PackDeskModel", "block", "(II)I"⟩,
  .methodLink "PackDeskLaw" 84 ⟨"PackDesk", "code", "(III)I"⟩,
  .instanceMethod ⟨"PackDesk", "code", "(III)I"⟩,
  .selects "PackDesk" ⟨"PackDesk", "code", "(III)I"⟩ ⟨"PackDesk", "code", "(III)I"⟩,
  .methodLink "PackDeskLaw" 88 ⟨"PackDeskModel", "code", "(III)I"⟩,
  .instanceMethod ⟨"PackDeskModel", "code", "(III)I"⟩,
  .selects "PackDeskModel" ⟨"PackDeskModel", "code", "(III)I"⟩ ⟨"PackDeskModel", "code", "(III)I"⟩,
  .methodLink "PackDeskLaw" 89 ⟨"PackDeskLaw", "unpack", "(LPackDesk;[J)I"⟩,
  .static ⟨"PackDeskLaw", "unpack", "(LPackDesk;[J)I"⟩,
  .methodLink "PackDeskLaw" 91 ⟨"PackDeskModel", "unpack", "()I"⟩,
  .instanceMethod ⟨"PackDeskModel", "unpack", "()I"⟩,
  .selects "PackDeskModel" ⟨"PackDeskModel", "unpack", "()I"⟩ ⟨"PackDeskModel", "unpack", "()I"⟩,
  .methodLink "PackDeskLaw" 92 ⟨"PackDesk", "fault", "(I)I"⟩,
  .instanceMethod ⟨"PackDesk", "fault", "(I)I"⟩,
  .selects "PackDesk" ⟨"PackDesk", "fault", "(I)I"⟩ ⟨"PackDesk", "fault", "(I)I"⟩,
  .methodLink "PackDeskLaw" 95 ⟨"PackDeskModel", "fault", "(I)I"⟩,
  .instanceMethod ⟨"PackDeskModel", "fault", "(I)I"⟩,
  .selects "PackDeskModel" ⟨"PackDeskModel", "fault", "(I)I"⟩ ⟨"PackDeskModel", "fault", "(I)I"⟩,
  .methodLink "PackDeskLaw" 96 ⟨"PackDesk", "output", "(I)I"⟩,
  .instanceMethod ⟨"PackDesk", "output", "(I)I"⟩,
  .selects "PackDesk" ⟨"PackDesk", "output", "(I)I"⟩ ⟨"PackDesk", "output", "(I)I"⟩,
  .methodLink "PackDeskLaw" 99 ⟨"PackDeskModel", "output", "(I)I"⟩,
  .instanceMethod ⟨"PackDeskModel", "output", "(I)I"⟩,
  .selects "PackDeskModel" ⟨"PackDeskModel", "output", "(I)I"⟩ ⟨"PackDeskModel", "output", "(I)I"⟩,
  .methodLink "PackDeskLaw" 100 ⟨"PackDeskLaw", "weigh", "(LPackDesk;II)I"⟩,
  .static ⟨"PackDeskLaw", "weigh", "(LPackDesk;II)I"⟩,
  .methodLink "PackDeskLaw" 103 ⟨"PackDeskModel", "weigh", "(II)V"⟩,
  .instanceMethod ⟨"PackDeskModel", "weigh", "(II)V"⟩,
  .selects "PackDeskModel" ⟨"PackDeskModel", "weigh", "(II)V"⟩ ⟨"PackDeskModel", "weigh", "(II)V"⟩,
  .methodLink "PackDeskLaw" 104 ⟨"PackDeskLaw", "measure", "(LPackDesk;I[J)I"⟩,
  .static ⟨"PackDeskLaw", "measure", "(LPackDesk;I[J)I"⟩,
  .methodLink "PackDeskLaw" 107 ⟨"PackDeskModel", "measure", "(I)I"⟩,
  .instanceMethod ⟨"PackDeskModel", "measure", "(I)I"⟩,
  .selects "PackDeskModel" ⟨"PackDeskModel", "measure", "(I)I"⟩ ⟨"PackDeskModel", "measure", "(I)I"⟩,
  .methodLink "PackDeskLaw" 108 ⟨"PackDesk", "length", "(I)I"⟩,
  .instanceMethod ⟨"PackDesk", "length", "(I)I"⟩,
  .selects "PackDesk" ⟨"PackDesk", "length", "(I)I"⟩ ⟨"PackDesk", "length", "(I)I"⟩,
  .methodLink "PackDeskLaw" 111 ⟨"PackDeskModel", "length", "(I)I"⟩,
  .instanceMethod ⟨"PackDeskModel", "length", "(I)I"⟩,
  .selects "PackDeskModel" ⟨"PackDeskModel", "length", "(I)I"⟩ ⟨"PackDeskModel", "length", "(I)I"⟩,
  .methodLink "PackDeskLaw" 112 ⟨"PackDesk", "about", "(I)I"⟩,
  .instanceMethod ⟨"PackDesk", "about", "(I)I"⟩,
  .selects "PackDesk" ⟨"PackDesk", "about", "(I)I"⟩ ⟨"PackDesk", "about", "(I)I"⟩,
  .methodLink "PackDeskLaw" 115 ⟨"PackDeskModel", "about", "(I)I"⟩,
  .instanceMethod ⟨"PackDeskModel", "about", "(I)I"⟩,
  .selects "PackDeskModel" ⟨"PackDeskModel", "about", "(I)I"⟩ ⟨"PackDeskModel", "about", "(I)I"⟩]
noncomputable def tz_ps13 : List Nat := [742, 55, 743, 744, 818, 819, 820, 916, 917, 918, 943, 944, 945, 77, 78, 79, 80, 955, 956, 68, 957, 958, 127, 423, 424, 425, 1174, 1175, 1176, 431, 432, 433, 1178, 1179, 1180, 440, 441, 442, 1182, 1183, 1184, 444, 445, 446, 1186, 1187, 1188, 738, 54, 739, 1190, 1191, 1192, 452, 453, 454, 1194, 1195, 1196, 458, 459, 460, 1199, 1200, 1201, 689, 690, 691, 1262, 1263, 1264, 693, 694, 695, 1266, 1267, 1268, 700, 701, 702, 1270, 1271, 1272, 704, 705, 706, 1274, 1275, 1276, 709, 710, 711, 1278, 1279, 1280, 814, 815, 1282, 1283, 1284, 722, 723, 724, 1322, 1323, 1324, 726, 727, 728, 1326, 1327, 1328, 912, 913, 1330, 1331, 1332, 940, 941, 1335, 1336, 1337, 730, 731, 732, 1339, 1340, 1341, 734, 735, 736, 1343, 1344, 1345]
/-- the words of java/util/Arrays, and their places -/
noncomputable def tz_tb14 : List Cond := []
noncomputable def tz_ps14 : List Nat := []
end
