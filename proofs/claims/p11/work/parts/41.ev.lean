/-! AN EVALUATOR OF THE PURE MACHINE, for runs of which all but some ints is known. A value: num n: the int of these 32 bits; add (num a) (num b): an int between (told from the least int on); var p: an own cell; mul (num j) _: an outer array; mul (var n) _: the long of these 64 bits. A heap is a tree by the bits of the cell's number, a cell mul (add tag length) (add ints (add longs references)), each a tree by the bits of the place; a leaf stands for all below it. All is told on by continuations, so that the kernel holds no work put off. -/
abbrev ev_X : Type := Nat.Internal.SOM.Expr
abbrev ev_S : Type := Nat × Nat × ev_X
abbrev ev_R : Type := Option ((Option ev_X ⊕ Nat) × ev_S)
noncomputable def ev_u (x : Int32) : Nat := x.toBitVec.toNat
noncomputable def ev_w (x : Int64) : Nat := x.toBitVec.toNat
noncomputable def ev_i (n : Nat) : Int32 := Int32.ofBitVec (BitVec.ofNat 32 n)
noncomputable def ev_j (n : Nat) : Int64 := Int64.ofBitVec (BitVec.ofNat 64 n)
noncomputable def ev_n (x : ev_X) : Nat := match x with
  | .num n => n
  | _ => 0
/-- told from the least int on -/
noncomputable def ev_e (n : Nat) : Nat := Nat.mod (Nat.add n 2147483648) 4294967296
noncomputable def ev_lo (x : ev_X) : Nat := match x with
  | .num n => ev_e n
  | .add a _ => ev_n a
  | _ => 0
noncomputable def ev_hi (x : ev_X) : Nat := match x with
  | .num n => ev_e n
  | .add _ b => ev_n b
  | _ => 4294967295
noncomputable def ev_top : ev_X := .add (.num 0) (.num 4294967295)
/-- a number is worked out before it goes on -/
noncomputable def ev_f {α : Type} (n : Nat) (c : Nat → α) : α := match n with
  | Nat.zero => c Nat.zero
  | Nat.succ m => c (Nat.succ m)
/-- a tree's leaf at a place -/
noncomputable def ev_g (t : ev_X) : Nat → Nat := Nat.Internal.SOM.Expr.rec (motive := fun _ => Nat → Nat) (fun v _ => v) (fun _ _ => 0) (fun _ _ il ir k => cond (Nat.beq (Nat.mod k 2) 0) (il (Nat.div k 2)) (ir (Nat.div k 2))) (fun _ _ _ _ _ => 0) t
/-- a cell by its number -/
noncomputable def ev_gc (t : ev_X) : Nat → ev_X := Nat.Internal.SOM.Expr.rec (motive := fun _ => Nat → ev_X) (fun _ _ => .num 0) (fun _ _ => .num 0) (fun _ _ il ir k => cond (Nat.beq (Nat.mod k 2) 0) (il (Nat.div k 2)) (ir (Nat.div k 2))) (fun a b _ _ _ => .mul a b) t
/-- a tree with another leaf at a place -/
noncomputable def ev_s {α : Type} (D : Nat) : ev_X → Nat → ev_X → (ev_X → α) → α := Nat.rec (motive := fun _ => ev_X → Nat → ev_X → (ev_X → α) → α) (fun _ _ v c => c v) (fun _ ih t k v c => match t with
  | .add l r => cond (Nat.beq (Nat.mod k 2) 0) (ih l (Nat.div k 2) v (fun l' => c (.add l' r))) (ih r (Nat.div k 2) v (fun r' => c (.add l r')))
  | w => cond (Nat.beq (Nat.mod k 2) 0) (ih w (Nat.div k 2) v (fun l' => c (.add l' w))) (ih w (Nat.div k 2) v (fun r' => c (.add w r')))) D
/-- how deep a cell's trees are -/
noncomputable def ev_dp (tag len : Nat) : Nat := cond (Nat.blt tag 1000) 7 (Nat.succ (Nat.log2 len))
/-- a cell is opened: tag, length, ints, longs, references -/
noncomputable def ev_op1 {α : Type} (w : ev_X) (c : Nat → Nat → ev_X → ev_X → ev_X → Option α) : Option α := match w with
  | .mul (.add (.num tag) (.num len)) (.add ai (.add al ar)) => c tag len ai al ar
  | _ => none
noncomputable def ev_cl (S : ev_S) (p : Nat) (c : Nat → Nat → ev_X → ev_X → ev_X → ev_R) : ev_R := cond (Nat.blt p 128) (ev_op1 (ev_gc S.2.2 p) c) none
noncomputable def ev_pc (S : ev_S) (p tag len : Nat) (ai al ar : ev_X) (c : ev_S → ev_R) : ev_R := ev_s 7 S.2.2 p (.mul (.add (.num tag) (.num len)) (.add ai (.add al ar))) (fun t => c (S.1, S.2.1, t))
/-- an int of the heap: unknown from 2^32 on -/
noncomputable def ev_hv {α : Type} (n : Nat) (c : ev_X → α) : α := cond (Nat.blt n 4294967296) (c (.num n)) (c ev_top)
/-- ints by their bits -/
noncomputable def ev_b1 (g : Int32 → Int32) (st : List ev_X) (c : List ev_X → ev_R) : ev_R := match st with
  | .num n :: r => ev_f (ev_u (g (ev_i n))) (fun q => c (.num q :: r))
  | .add _ _ :: r => c (ev_top :: r)
  | _ => none
noncomputable def ev_b2 (f : Nat → Nat → Nat) (st : List ev_X) (c : List ev_X → ev_R) : ev_R := match st with
  | .num m :: .num n :: r => ev_f (f n m) (fun q => c (.num q :: r))
  | .add _ _ :: .num _ :: r => c (ev_top :: r)
  | .num _ :: .add _ _ :: r => c (ev_top :: r)
  | .add _ _ :: .add _ _ :: r => c (ev_top :: r)
  | _ => none
noncomputable def ev_l2 (g : Int64 → Int64 → Int64) (st : List ev_X) (c : List ev_X → ev_R) : ev_R := match st with
  | .mul (.var m) _ :: .mul (.var n) _ :: r => ev_f (ev_w (g (ev_j n) (ev_j m))) (fun q => c (.mul (.var q) (.num 0) :: r))
  | _ => none
noncomputable def ev_isI (y : ev_X) (c : ev_R) : ev_R := match y with
  | .num _ => c
  | .add _ _ => c
  | _ => none
/-- a local -/
noncomputable def ev_nth (ls : List (Option ev_X)) : Nat → Option ev_X := List.rec (motive := fun _ => Nat → Option ev_X) (fun _ => none) (fun a _ ih k => match k with
  | Nat.zero => a
  | Nat.succ k => ih k) ls
noncomputable def ev_ldI (x : Option ev_X) (st : List ev_X) (c : List ev_X → ev_R) : ev_R := match x with
  | some (.num n) => c (.num n :: st)
  | some (.add a b) => c (.add a b :: st)
  | _ => none
noncomputable def ev_ldL (x : Option ev_X) (st : List ev_X) (c : List ev_X → ev_R) : ev_R := match x with
  | some (.mul (.var n) e) => c (.mul (.var n) e :: st)
  | _ => none
noncomputable def ev_ldA (x : Option ev_X) (st : List ev_X) (c : List ev_X → ev_R) : ev_R := match x with
  | some (.var p) => c (.var p :: st)
  | some (.mul (.num j) e) => c (.mul (.num j) e :: st)
  | _ => none
/-- a local is set -/
noncomputable def ev_lset (ls : List (Option ev_X)) : Nat → Option ev_X → (List (Option ev_X) → ev_R) → ev_R := List.rec (motive := fun _ => Nat → Option ev_X → (List (Option ev_X) → ev_R) → ev_R) (fun _ _ c => c []) (fun a r ih k v c => match k with
  | Nat.zero => c (v :: r)
  | Nat.succ k => ih k v (fun r' => c (a :: r'))) ls
noncomputable def ev_cut (ls : List (Option ev_X)) (k : Nat) (c : List (Option ev_X) → ev_R) : ev_R := match k with
  | Nat.zero => c ls
  | Nat.succ j => match ev_nth ls j with
    | some (.mul (.var _) _) => ev_lset ls j none c
    | _ => c ls
noncomputable def ev_ss (ls : List (Option ev_X)) (k : Nat) (v : ev_X) (c : List (Option ev_X) → ev_R) : ev_R := ev_cut ls k (fun l => ev_lset l k (some v) c)
noncomputable def ev_stI (k : Nat) (ls : List (Option ev_X)) (st : List ev_X) (c : List (Option ev_X) → List ev_X → ev_R) : ev_R := match st with
  | .num n :: r => ev_ss ls k (.num n) (fun l => c l r)
  | .add a b :: r => ev_ss ls k (.add a b) (fun l => c l r)
  | _ => none
noncomputable def ev_stL (k : Nat) (ls : List (Option ev_X)) (st : List ev_X) (c : List (Option ev_X) → List ev_X → ev_R) : ev_R := match st with
  | .mul (.var n) e :: r => ev_ss ls k (.mul (.var n) e) (fun l => ev_lset l (Nat.succ k) none (fun l => c l r))
  | _ => none
noncomputable def ev_stA (k : Nat) (ls : List (Option ev_X)) (st : List ev_X) (c : List (Option ev_X) → List ev_X → ev_R) : ev_R := match st with
  | .var p :: r => ev_ss ls k (.var p) (fun l => c l r)
  | .mul (.num j) e :: r => ev_ss ls k (.mul (.num j) e) (fun l => c l r)
  | _ => none
/-- what a branch asks: if it is known -/
noncomputable def ev_lt (x y : ev_X) (t f : ev_R) : ev_R := cond (Nat.blt (ev_hi x) (ev_lo y)) t (cond (Nat.ble (ev_hi y) (ev_lo x)) f none)
noncomputable def ev_eq (x y : ev_X) (t f : ev_R) : ev_R := cond (Nat.blt (ev_hi x) (ev_lo y)) f (cond (Nat.blt (ev_hi y) (ev_lo x)) f (cond (and (Nat.ble (ev_hi x) (ev_lo y)) (Nat.ble (ev_hi y) (ev_lo x))) t none))
noncomputable def ev_cmp (o : ClassFile.Cond) (x y : ev_X) (t f : ev_R) : ev_R := match o with
  | .eq => ev_eq x y t f
  | .ne => ev_eq x y f t
  | .lt => ev_lt x y t f
  | .ge => ev_lt x y f t
  | .gt => ev_lt y x t f
  | .le => ev_lt y x f t
/-- an object of a class, a field of it; an array of a kind, a place of it: its length and trees -/
noncomputable def ev_ob (S : ev_S) (p a b : Nat) (c : Nat → ev_X → ev_X → ev_X → ev_R) : ev_R := ev_cl S p (fun tag len ai al ar => cond (and (Nat.beq tag a) (and (Nat.blt a 1000) (Nat.blt b 128))) (c len ai al ar) none)
noncomputable def ev_ra (S : ev_S) (p a n : Nat) (c : Nat → ev_X → ev_X → ev_X → ev_R) : ev_R := ev_cl S p (fun tag len ai al ar => cond (and (Nat.beq tag a) (and (Nat.blt n len) (Nat.ble len 200000))) (c len ai al ar) none)
noncomputable def ev_gf (a b k : Nat) (st : List ev_X) (S : ev_S) (c : List ev_X → ev_S → ev_R) : ev_R := match st with
  | .var p :: r => ev_ob S p a b (fun _ ai al ar => match k with
    | 0 => ev_f (ev_g ai b) (fun n => ev_hv n (fun x => c (x :: r) S))
    | 1 => ev_f (ev_g ai b) (fun n => ev_hv n (fun x => c (x :: r) S))
    | 2 => ev_f (ev_g al b) (fun n => c (.mul (.var n) (.num 0) :: r) S)
    | 3 => ev_f (ev_g ar b) (fun n => cond (Nat.beq n 0) none (c (.var n :: r) S))
    | j + 4 => ev_f (ev_g ar b) (fun n => cond (Nat.beq n (Nat.succ j)) (c (.var n :: r) S) none))
  | _ => none
noncomputable def ev_pf0 (a b : Nat) (st : List ev_X) (S : ev_S) (c : List ev_X → ev_S → ev_R) : ev_R := match st with
  | .num x :: .var p :: r => ev_ob S p a b (fun len ai al ar => ev_s 7 ai b (.num x) (fun ai => ev_pc S p a len ai al ar (fun S => c r S)))
  | .add _ _ :: .var p :: r => ev_ob S p a b (fun len ai al ar => ev_s 7 ai b (.num 4294967296) (fun ai => ev_pc S p a len ai al ar (fun S => c r S)))
  | _ => none
noncomputable def ev_pf1 (a b : Nat) (st : List ev_X) (S : ev_S) (c : List ev_X → ev_S → ev_R) : ev_R := match st with
  | .num x :: .var p :: r => cond (Nat.ble x 1) (ev_ob S p a b (fun len ai al ar => ev_s 7 ai b (.num x) (fun ai => ev_pc S p a len ai al ar (fun S => c r S)))) none
  | _ => none
noncomputable def ev_pf3 (a b : Nat) (st : List ev_X) (S : ev_S) (c : List ev_X → ev_S → ev_R) : ev_R := match st with
  | .var q :: .var p :: r => cond (Nat.blt 0 q) (ev_ob S p a b (fun len ai al ar => ev_s 7 ar b (.num q) (fun ar => ev_pc S p a len ai al ar (fun S => c r S)))) none
  | _ => none
noncomputable def ev_pf (a b k : Nat) (st : List ev_X) (S : ev_S) (c : List ev_X → ev_S → ev_R) : ev_R := match k with
  | 0 => ev_pf0 a b st S c
  | 1 => ev_pf1 a b st S c
  | 2 => none
  | _ + 3 => ev_pf3 a b st S c
noncomputable def ev_sc (sc : List ev_X) (n : Nat) (c : ev_X → ev_R) : ev_R := match sc.getD n (.var 0) with
  | .num x => c (.num x)
  | .add x y => c (.add x y)
  | _ => none
noncomputable def ev_ia (sc : List ev_X) (ar : Nat → List Int32) (st : List ev_X) (S : ev_S) (c : List ev_X → ev_S → ev_R) : ev_R := match st with
  | .num n :: .var p :: r => ev_ra S p 1000 n (fun _ ai _ _ => ev_f (ev_g ai n) (fun n => ev_hv n (fun x => c (x :: r) S)))
  | .num n :: .mul (.num j) _ :: r => (match j with
    | Nat.zero => cond (and (Nat.blt n sc.length) (Nat.ble sc.length 200000)) (ev_sc sc n (fun x => c (x :: r) S)) none
    | Nat.succ j => cond (and (Nat.blt n (ar (Nat.succ j)).length) (Nat.ble (ar (Nat.succ j)).length 200000)) (ev_f (ev_u ((ar (Nat.succ j)).getD n 0)) (fun x => c (.num x :: r) S)) none)
  | _ => none
noncomputable def ev_ba (st : List ev_X) (S : ev_S) (c : List ev_X → ev_S → ev_R) : ev_R := match st with
  | .num n :: .var p :: r => ev_ra S p 1003 n (fun _ ai _ _ => ev_f (ev_g ai n) (fun n => ev_hv n (fun x => c (x :: r) S)))
  | _ => none
noncomputable def ev_la (st : List ev_X) (S : ev_S) (c : List ev_X → ev_S → ev_R) : ev_R := match st with
  | .num n :: .var p :: r => ev_ra S p 1002 n (fun _ _ al _ => ev_f (ev_g al n) (fun x => c (.mul (.var x) (.num 0) :: r) S))
  | _ => none
noncomputable def ev_is (st : List ev_X) (S : ev_S) (c : List ev_X → ev_S → ev_R) : ev_R := match st with
  | .num y :: .num n :: .var p :: r => ev_ra S p 1000 n (fun len ai al ar => ev_s (ev_dp 1000 len) ai n (.num y) (fun ai => ev_pc S p 1000 len ai al ar (fun S => c r S)))
  | .add _ _ :: .num n :: .var p :: r => ev_ra S p 1000 n (fun len ai al ar => ev_s (ev_dp 1000 len) ai n (.num 4294967296) (fun ai => ev_pc S p 1000 len ai al ar (fun S => c r S)))
  | _ => none
noncomputable def ev_bs (st : List ev_X) (S : ev_S) (c : List ev_X → ev_S → ev_R) : ev_R := match st with
  | .num y :: .num n :: .var p :: r => ev_ra S p 1003 n (fun len ai al ar => ev_f (ev_u (ev_i y).toInt8.toInt32) (fun y => ev_s (ev_dp 1003 len) ai n (.num y) (fun ai => ev_pc S p 1003 len ai al ar (fun S => c r S))))
  | .add _ _ :: .num n :: .var p :: r => ev_ra S p 1003 n (fun len ai al ar => ev_s (ev_dp 1003 len) ai n (.num 4294967296) (fun ai => ev_pc S p 1003 len ai al ar (fun S => c r S)))
  | _ => none
noncomputable def ev_lt2 (st : List ev_X) (S : ev_S) (c : List ev_X → ev_S → ev_R) : ev_R := match st with
  | .mul (.var y) _ :: .num n :: .var p :: r => ev_ra S p 1002 n (fun len ai al ar => ev_s (ev_dp 1002 len) al n (.num y) (fun al => ev_pc S p 1002 len ai al ar (fun S => c r S)))
  | _ => none
noncomputable def ev_al (sc : List ev_X) (ar : Nat → List Int32) (st : List ev_X) (S : ev_S) (c : List ev_X → ev_S → ev_R) : ev_R := match st with
  | .var p :: r => ev_cl S p (fun tag len _ _ _ => cond (and (or (Nat.beq tag 1000) (or (Nat.beq tag 1002) (Nat.beq tag 1003))) (Nat.ble len 200000)) (c (.num len :: r) S) none)
  | .mul (.num j) _ :: r => (match j with
    | Nat.zero => cond (and (Nat.blt 0 sc.length) (Nat.ble sc.length 200000)) (ev_f sc.length (fun n => c (.num n :: r) S)) none
    | Nat.succ j => cond (Nat.ble (ar (Nat.succ j)).length 200000) (ev_f (ar (Nat.succ j)).length (fun n => c (.num n :: r) S)) none)
  | _ => none
noncomputable def ev_dv (st : List ev_X) (S : ev_S) (c : List ev_X → ev_S → ev_R) : ev_R := match st with
  | .num m :: .num n :: r => cond (Nat.beq m 0) none (ev_f (ev_u (ev_i n / ev_i m)) (fun q => c (.num q :: r) S))
  | _ => none
noncomputable def ev_rm (st : List ev_X) (S : ev_S) (c : List ev_X → ev_S → ev_R) : ev_R := match st with
  | .num m :: .num n :: r => cond (Nat.beq m 0) none (ev_f (ev_u (ev_i n - ev_i n / ev_i m * ev_i m)) (fun q => c (.num q :: r) S))
  | _ => none
/-- a new cell -/
noncomputable def ev_nw (tag len sl : Nat) (S : ev_S) (c : Nat → ev_S → ev_R) : ev_R := cond (and (Nat.ble (Nat.add S.1 2) 128) (Nat.ble (Nat.add S.2.1 sl) ez_MS)) (ev_f (Nat.succ S.1) (fun p => ev_f (Nat.add S.2.1 sl) (fun u => ev_s 7 S.2.2 p (.mul (.add (.num tag) (.num len)) (.add (.num 0) (.add (.num 0) (.num 0)))) (fun t => c p (p, u, t))))) none
noncomputable def ev_na (a : Nat) (st : List ev_X) (S : ev_S) (c : List ev_X → ev_S → ev_R) : ev_R := match st with
  | .num n :: r => cond (Nat.ble n 200000) (ev_nw a n n S (fun p S => c (.var p :: r) S)) none
  | _ => none
/-- the stack below a call weighs little -/
noncomputable def ev_ct (x : ev_X) : Nat := match x with
  | .mul (.var _) _ => 2
  | _ => 1
noncomputable def ev_few (st : List ev_X) : Bool := Nat.ble ((st.map ev_ct).sum) 8
noncomputable def ev_in (st : List ev_X) (S : ev_S) (c : List ev_X → ev_S → ev_R) : ev_R := match st with
  | .var _ :: r => cond (ev_few r) (c r S) none
  | _ => none
noncomputable def ev_max (st : List ev_X) (S : ev_S) (c : List ev_X → ev_S → ev_R) : ev_R := match st with
  | .num m :: .num n :: r => cond (ev_few r) (cond (Nat.blt (ev_e n) (ev_e m)) (c (.num m :: r) S) (c (.num n :: r) S)) none
  | _ => none
noncomputable def ev_min (st : List ev_X) (S : ev_S) (c : List ev_X → ev_S → ev_R) : ev_R := match st with
  | .num m :: .num n :: r => cond (ev_few r) (cond (Nat.blt (ev_e m) (ev_e n)) (c (.num m :: r) S) (c (.num n :: r) S)) none
  | _ => none
/-- ints are copied -/
noncomputable def ev_cp (D : Nat) (src : ev_X) (sp dp n : Nat) : ev_X → (ev_X → ev_R) → ev_R := Nat.rec (motive := fun _ => ev_X → (ev_X → ev_R) → ev_R) (fun t c => c t) (fun i ih t c => ev_f (ev_g src (Nat.add sp i)) (fun v => ev_s D t (Nat.add dp i) (.num v) (fun t => ih t c))) n
noncomputable def ev_ac (st : List ev_X) (S : ev_S) (c : List ev_X → ev_S → ev_R) : ev_R := match st with
  | .num n :: .num dp :: .var q :: .num sp :: .var p :: r => cond (ev_few r) (ev_cl S p (fun tag len ai _ _ => cond (and (Nat.beq tag 1000) (and (Nat.ble (Nat.add sp n) len) (Nat.ble len 200000))) (ev_cl S q (fun tag' len' ai' al' ar' => cond (and (Nat.beq tag' 1000) (and (Nat.ble (Nat.add dp n) len') (Nat.ble len' 200000))) (ev_cp (ev_dp 1000 len') ai sp dp n ai' (fun ai' => ev_pc S q 1000 len' ai' al' ar' (fun S => c r S))) none)) none)) none
  | _ => none
/-- what an instruction is to the evaluator: the script, what goes on behind it, a jump, a call; locals, stack, heap -/
abbrev ev_L : Type := List (Option ev_X)
abbrev ev_N : Type := ev_L → List ev_X → ev_S → ev_R
abbrev ev_F : Type := List ev_X → ev_N → (Nat → ev_N) → (Nat → Nat → Nat → Nat → ev_N) → ev_N
noncomputable def eh_C (n : Nat) : ev_F := fun _ nx _ _ ls st S => nx ls (.num n :: st) S
noncomputable def eh_J (n : Nat) : ev_F := fun _ nx _ _ ls st S => nx ls (.mul (.var n) (.num 0) :: st) S
noncomputable def eh_1 (g : Int32 → Int32) : ev_F := fun _ nx _ _ ls st S => ev_b1 g st (fun st => nx ls st S)
noncomputable def eh_2 (f : Nat → Nat → Nat) : ev_F := fun _ nx _ _ ls st S => ev_b2 f st (fun st => nx ls st S)
noncomputable def eh_l2 (g : Int64 → Int64 → Int64) : ev_F := fun _ nx _ _ ls st S => ev_l2 g st (fun st => nx ls st S)
noncomputable def ef_add (n m : Nat) : Nat := Nat.mod (Nat.add n m) 4294967296
noncomputable def ef_sub (n m : Nat) : Nat := Nat.mod (Nat.add n (Nat.sub 4294967296 m)) 4294967296
noncomputable def ef_mul (n m : Nat) : Nat := Nat.mod (Nat.mul n m) 4294967296
noncomputable def ef_and (n m : Nat) : Nat := Nat.land n m
noncomputable def ef_or (n m : Nat) : Nat := Nat.lor n m
noncomputable def ef_xor (n m : Nat) : Nat := Nat.xor n m
noncomputable def ef_shl (n m : Nat) : Nat := ev_u (ev_i n <<< (ev_i m &&& 31))
noncomputable def ef_shr (n m : Nat) : Nat := ev_u (ev_i n >>> (ev_i m &&& 31))
noncomputable def ef_ushr (n m : Nat) : Nat := ev_u (((ev_i n).toUInt32 >>> ((ev_i m).toUInt32 &&& Int32.toUInt32 31)).toInt32)
noncomputable def ef_i2b (x : Int32) : Int32 := x.toInt8.toInt32
noncomputable def ef_neg (x : Int32) : Int32 := -x
noncomputable def ef_ladd (x y : Int64) : Int64 := x + y
noncomputable def ef_lsub (x y : Int64) : Int64 := x - y
noncomputable def ef_lmul (x y : Int64) : Int64 := x * y
noncomputable def eh_i2l : ev_F := fun _ nx _ _ ls st S => match st with
  | .num n :: r => ev_f (ev_w (ev_i n).toInt64) (fun q => nx ls (.mul (.var q) (.num 0) :: r) S)
  | _ => none
noncomputable def eh_l2i : ev_F := fun _ nx _ _ ls st S => match st with
  | .mul (.var n) _ :: r => ev_f (ev_u (ev_j n).toInt32) (fun q => nx ls (.num q :: r) S)
  | _ => none
noncomputable def eh_lcmp : ev_F := fun _ nx _ _ ls st S => match st with
  | .mul (.var m) _ :: .mul (.var n) _ :: r => ev_f (ev_u (lg_cmp (ev_j n) (ev_j m))) (fun q => nx ls (.num q :: r) S)
  | _ => none
noncomputable def eh_dup : ev_F := fun _ nx _ _ ls st S => match st with
  | .num n :: r => nx ls (.num n :: .num n :: r) S
  | .add a b :: r => nx ls (.add a b :: .add a b :: r) S
  | .var p :: r => nx ls (.var p :: .var p :: r) S
  | _ => none
noncomputable def eh_dup2 : ev_F := fun _ nx _ _ ls st S => match st with
  | y :: .var p :: r => ev_isI y (nx ls (y :: .var p :: y :: .var p :: r) S)
  | y :: .num n :: r => ev_isI y (nx ls (y :: .num n :: y :: .num n :: r) S)
  | _ => none
noncomputable def eh_dupx : ev_F := fun _ nx _ _ ls st S => match st with
  | y :: .var p :: r => ev_isI y (nx ls (y :: .var p :: y :: r) S)
  | y :: .num n :: r => ev_isI y (nx ls (y :: .num n :: y :: r) S)
  | _ => none
noncomputable def eh_pop : ev_F := fun _ nx _ _ ls st S => match st with
  | .num _ :: r => nx ls r S
  | .add _ _ :: r => nx ls r S
  | .var _ :: r => nx ls r S
  | _ => none
noncomputable def eh_li (k : Nat) : ev_F := fun _ nx _ _ ls st S => ev_ldI (ev_nth ls k) st (fun st => nx ls st S)
noncomputable def eh_ll (k : Nat) : ev_F := fun _ nx _ _ ls st S => ev_ldL (ev_nth ls k) st (fun st => nx ls st S)
noncomputable def eh_la (k : Nat) : ev_F := fun _ nx _ _ ls st S => ev_ldA (ev_nth ls k) st (fun st => nx ls st S)
noncomputable def eh_si (k : Nat) : ev_F := fun _ nx _ _ ls st S => ev_stI k ls st (fun ls st => nx ls st S)
noncomputable def eh_sl (k : Nat) : ev_F := fun _ nx _ _ ls st S => ev_stL k ls st (fun ls st => nx ls st S)
noncomputable def eh_sa (k : Nat) : ev_F := fun _ nx _ _ ls st S => ev_stA k ls st (fun ls st => nx ls st S)
noncomputable def eh_inc (k n : Nat) : ev_F := fun _ nx _ _ ls st S => match ev_nth ls k with
  | some (.num m) => ev_f (ef_add m n) (fun q => ev_ss ls k (.num q) (fun ls => nx ls st S))
  | some (.add _ _) => ev_ss ls k ev_top (fun ls => nx ls st S)
  | _ => none
noncomputable def eh_b1 (o : ClassFile.Cond) (t : Nat) : ev_F := fun _ nx to _ ls st S => match st with
  | x :: r => ev_isI x (ev_cmp o x (.num 0) (to t ls r S) (nx ls r S))
  | _ => none
noncomputable def eh_b2 (o : ClassFile.Cond) (t : Nat) : ev_F := fun _ nx to _ ls st S => match st with
  | y :: x :: r => ev_isI x (ev_isI y (ev_cmp o x y (to t ls r S) (nx ls r S)))
  | _ => none
noncomputable def eh_go (t : Nat) : ev_F := fun _ _ to _ ls st S => to t ls st S
/-- a switch: its cases, then the rest -/
noncomputable def ev_sw (df : Nat) (x : ev_X) (K : Nat → ev_R) (l : List (Nat × Nat)) : ev_R := List.rec (motive := fun _ => ev_R) (K df) (fun q _ ih => ev_eq x (.num q.1) (K q.2) ih) l
noncomputable def eh_sw (df : Nat) (l : List (Nat × Nat)) : ev_F := fun _ _ to _ ls st S => match st with
  | x :: r => ev_isI x (ev_sw df x (fun t => to t ls r S) l)
  | _ => none
noncomputable def eh_gI (a b : Nat) : ev_F := fun _ nx _ _ ls st S => match st with
  | .var p :: r => ev_ob S p a b (fun _ ai _ _ => ev_f (ev_g ai b) (fun n => ev_hv n (fun x => nx ls (x :: r) S)))
  | _ => none
noncomputable def eh_gL (a b : Nat) : ev_F := fun _ nx _ _ ls st S => match st with
  | .var p :: r => ev_ob S p a b (fun _ _ al _ => ev_f (ev_g al b) (fun n => nx ls (.mul (.var n) (.num 0) :: r) S))
  | _ => none
noncomputable def eh_gR (a b : Nat) : ev_F := fun _ nx _ _ ls st S => match st with
  | .var p :: r => ev_ob S p a b (fun _ _ _ ar => ev_f (ev_g ar b) (fun n => cond (Nat.beq n 0) none (nx ls (.var n :: r) S)))
  | _ => none
noncomputable def eh_gK (a b j : Nat) : ev_F := fun _ nx _ _ ls st S => match st with
  | .var p :: r => ev_ob S p a b (fun _ _ _ ar => ev_f (ev_g ar b) (fun n => cond (Nat.beq n (Nat.succ j)) (nx ls (.var n :: r) S) none))
  | _ => none
noncomputable def eh_pI (a b : Nat) : ev_F := fun _ nx _ _ ls st S => ev_pf0 a b st S (fun st S => nx ls st S)
noncomputable def eh_pZ (a b : Nat) : ev_F := fun _ nx _ _ ls st S => ev_pf1 a b st S (fun st S => nx ls st S)
noncomputable def eh_pR (a b : Nat) : ev_F := fun _ nx _ _ ls st S => ev_pf3 a b st S (fun st S => nx ls st S)
noncomputable def eh_gs (a : Nat) : ev_F := fun _ nx _ _ ls st S => nx ls (.mul (.num a) (.num 0) :: st) S
noncomputable def eh_ia : ev_F := fun sc nx _ _ ls st S => ev_ia sc tz_ar st S (fun st S => nx ls st S)
noncomputable def eh_ba : ev_F := fun _ nx _ _ ls st S => ev_ba st S (fun st S => nx ls st S)
noncomputable def eh_ja : ev_F := fun _ nx _ _ ls st S => ev_la st S (fun st S => nx ls st S)
noncomputable def eh_is : ev_F := fun _ nx _ _ ls st S => ev_is st S (fun st S => nx ls st S)
noncomputable def eh_bs : ev_F := fun _ nx _ _ ls st S => ev_bs st S (fun st S => nx ls st S)
noncomputable def eh_js : ev_F := fun _ nx _ _ ls st S => ev_lt2 st S (fun st S => nx ls st S)
noncomputable def eh_al : ev_F := fun sc nx _ _ ls st S => ev_al sc tz_ar st S (fun st S => nx ls st S)
noncomputable def eh_dv : ev_F := fun _ nx _ _ ls st S => ev_dv st S (fun st S => nx ls st S)
noncomputable def eh_rm : ev_F := fun _ nx _ _ ls st S => ev_rm st S (fun st S => nx ls st S)
noncomputable def eh_na (a : Nat) : ev_F := fun _ nx _ _ ls st S => ev_na a st S (fun st S => nx ls st S)
noncomputable def eh_nw (a b : Nat) : ev_F := fun _ nx _ _ ls st S => ev_nw a 0 b S (fun p S => nx ls (.var p :: st) S)
noncomputable def eh_oi : ev_F := fun _ nx _ _ ls st S => ev_in st S (fun st S => nx ls st S)
noncomputable def eh_max : ev_F := fun _ nx _ _ ls st S => ev_max st S (fun st S => nx ls st S)
noncomputable def eh_min : ev_F := fun _ nx _ _ ls st S => ev_min st S (fun st S => nx ls st S)
noncomputable def eh_ac : ev_F := fun _ nx _ _ ls st S => ev_ac st S (fun st S => nx ls st S)
noncomputable def eh_cl (pc a b k : Nat) : ev_F := fun _ _ _ cal ls st S => cal pc a b k ls st S
noncomputable def eh_ri : ev_F := fun _ _ _ _ _ st S => match st with
  | .num n :: [] => some (.inl (some (.num n)), S)
  | .add x y :: [] => some (.inl (some (.add x y)), S)
  | _ => none
noncomputable def eh_rz : ev_F := fun _ _ _ _ _ st S => match st with
  | .num n :: [] => cond (Nat.ble n 1) (some (.inl (some (.num n)), S)) none
  | _ => none
noncomputable def eh_rl : ev_F := fun _ _ _ _ _ st S => match st with
  | .mul (.var n) e :: [] => some (.inl (some (.mul (.var n) e)), S)
  | _ => none
noncomputable def eh_rv : ev_F := fun _ _ _ _ _ st S => match st with
  | [] => some (.inl none, S)
  | _ => none
noncomputable def eh_th (a : Nat) : ev_F := fun _ _ _ _ _ st S => match st with
  | [] => cond (and (Nat.ble (Nat.succ S.1) ez_MC) (Nat.ble (Nat.add S.2.1 6) ez_MS)) (ev_f (Nat.succ S.1) (fun n => ev_f (Nat.add S.2.1 6) (fun u => some (.inr a, (n, u, S.2.2))))) none
  | _ => none
noncomputable def eh_no : ev_F := fun _ _ _ _ _ _ _ => none
abbrev ev_K : Type := Nat × ev_F
abbrev ev_U : Type := List (Nat × List ev_K)
/-- where a jump goes -/
noncomputable def ev_lk (t : Nat) (fu : ev_U) : List ev_K := List.rec (motive := fun _ => List ev_K) [] (fun e _ ih => cond (Nat.beq e.1 t) e.2 ih) fu
/-- depth, method, its places, the rest of its code; the script, locals, stack, heap -/
abbrev ev_G : Type := Nat → Nat → ev_U → List ev_K → List ev_X → ev_N
noncomputable def ev_to (ih : ev_G) (d mi : Nat) (fu : ev_U) (sc : List ev_X) (t : Nat) : ev_N := fun ls st S => ih d mi fu (ev_lk t fu) sc ls st S
noncomputable def ev_lay : List ev_X → List (Option ev_X)
  | [] => []
  | .mul (.var n) e :: r => some (.mul (.var n) e) :: none :: ev_lay r
  | v :: r => some v :: ev_lay r
/-- a list is worked out before it goes on -/
noncomputable def ev_fl {α β : Type} (l : List α) : (List α → β) → β := List.rec (motive := fun _ => (List α → β) → β) (fun c => c []) (fun x _ ih c => ih (fun r => c (x :: r))) l
noncomputable def ev_rcv (S : ev_S) (k : Nat) (vs : List ev_X) : Bool := match k with
  | 0 => true
  | k + 1 => match vs with
    | .var p :: _ => (match ev_cl S p (fun tag _ _ _ _ => cond (Nat.beq tag (Nat.succ k)) (some (.inr 0, S)) none) with
      | some _ => true
      | none => false)
    | _ => false
/-- Arrays.fill -/
noncomputable def ev_fi (as : List ev_X) (S : ev_S) (c : ev_S → ev_R) : ev_R := match as with
  | .var p :: .num v :: [] => ev_cl S p (fun tag len _ al ar => cond (and (Nat.beq tag 1000) (Nat.ble len 200000)) (ev_pc S p 1000 len (.num v) al ar c) none)
  | _ => none
/-- findParts on an empty tape -/
noncomputable def ev_fp (as : List ev_X) (S : ev_S) (c : ev_S → ev_R) : ev_R := match as with
  | .var p :: [] => ev_ob S p 2 6 (fun len ai al ar => cond (Nat.beq (ev_g ai 6) 0) (ev_f (ev_g ar 13) (fun q => cond (and (Nat.blt 0 q) (Bool.not (Nat.beq p q))) (ev_cl S q (fun tag len' _ al' ar' => cond (and (Nat.beq tag 1000) (Nat.beq len' 65536)) (ev_pc S q 1000 len' (.num 4294967295) al' ar' (fun S => ev_s 7 ai 14 (.num 0) (fun ai => ev_pc S p 2 len ai al ar c))) none)) none)) none)
  | _ => none
/-- calls whose outcome is known: depth, method, arguments, heap; what goes on behind it; what else -/
abbrev ev_M : Type := Nat → Nat → List ev_X → ev_S → (ev_S → ev_R) → ev_R → ev_R
noncomputable def ev_M0 : ev_M := fun _ _ _ _ _ e => e
section EVR
variable (CO : Nat → ev_U × List ev_K) (M : ev_M)
noncomputable def ev_bk (ih : ev_G) (d mi : Nat) (fu : ev_U) (cs : List ev_K) (sc : List ev_X) (pc : Nat) (ls : ev_L) (st : List ev_X) (r : ev_R) : ev_R := match r with
  | none => none
  | some (.inl none, S) => ih d mi fu cs sc ls st S
  | some (.inl (some w), S) => ih d mi fu cs sc ls (w :: st) S
  | some (.inr x, S) => match tz_hn mi pc x with
    | none => some (.inr x, S)
    | some (t, j) => (match t with
      | 0 => none
      | t' + 1 => cond (Nat.blt pc (Nat.succ t')) (ev_cut ls j (fun l => ev_lset l j none (fun l => ih d mi fu (ev_lk (Nat.succ t') fu) sc l [] S))) none)
noncomputable def ev_iv (ih : ev_G) (d' d mi : Nat) (fu : ev_U) (cs : List ev_K) (sc : List ev_X) (pc a b k : Nat) (ls : ev_L) (as st : List ev_X) (S : ev_S) : ev_R :=
  cond (and (ev_few st) (and (Nat.ble (ev_lay as).length (tz_ml a)) (and (Nat.beq as.length b) (ev_rcv S k as)))) (cond (Nat.beq a 148) (ev_fi as S (fun S => ih d mi fu cs sc ls st S)) (cond (Nat.beq a 32) (ev_fp as S (fun S => ih d mi fu cs sc ls st S)) (M d' a as S (fun S => ih d mi fu cs sc ls st S) (ev_fl (ev_lay as ++ List.replicate (tz_ml a - (ev_lay as).length) none) (fun l => match CO a with
    | (fu', co') => ev_bk ih d mi fu cs sc pc ls st (ih d' a fu' co' sc l [] S)))))) none
noncomputable def ev_call (ih : ev_G) (d mi : Nat) (fu : ev_U) (cs : List ev_K) (sc : List ev_X) (pc a b k : Nat) : ev_N := fun ls st S => match d with
  | 0 => none
  | d' + 1 => ev_fl (st.take b).reverse (fun as => ev_fl (st.drop b) (fun st => ev_iv CO M ih d' (Nat.succ d') mi fu cs sc pc a b k ls as st S))
noncomputable def ev_body (ih : ev_G) : ev_G := fun d mi fu cs sc ls st S => match cs with
  | [] => none
  | (_, F) :: cs => F sc (ih d mi fu cs sc) (ev_to ih d mi fu sc) (ev_call CO M ih d mi fu cs sc) ls st S
noncomputable def ev_run (n : Nat) : ev_G := Nat.rec (motive := fun _ => ev_G) (fun _ _ _ _ _ _ _ _ => none) (fun _ ih => ev_body CO M ih) n
end EVR
/-- an instruction's meaning to the evaluator -/
noncomputable def ev_tr (q : ez_C) : ev_K := match q with
  | (pc, i, a, b, k, v) => (pc, match i with
    | .iconst _ => eh_C (ev_u v)
    | .bipush _ => eh_C (ev_u v)
    | .sipush _ => eh_C (ev_u v)
    | .ldc _ => eh_C (ev_u v)
    | .ldc_w _ => eh_C (ev_u v)
    | .ldc2_w _ => eh_J (ev_w v.toInt64)
    | .lconst _ => eh_J (ev_w v.toInt64)
    | .i2b => eh_1 ef_i2b
    | .iadd => eh_2 ef_add
    | .isub => eh_2 ef_sub
    | .imul => eh_2 ef_mul
    | .iand => eh_2 ef_and
    | .ior => eh_2 ef_or
    | .ixor => eh_2 ef_xor
    | .ishl => eh_2 ef_shl
    | .ishr => eh_2 ef_shr
    | .iushr => eh_2 ef_ushr
    | .ineg => eh_1 ef_neg
    | .i2l => eh_i2l
    | .l2i => eh_l2i
    | .ladd => eh_l2 ef_ladd
    | .lsub => eh_l2 ef_lsub
    | .lmul => eh_l2 ef_lmul
    | .lcmp => eh_lcmp
    | .dup => eh_dup
    | .dup2 => eh_dup2
    | .dup_x1 => eh_dupx
    | .pop => eh_pop
    | .iload k => eh_li k
    | .iload_n k => eh_li k.val
    | .lload k => eh_ll k
    | .lload_n k => eh_ll k.val
    | .aload k => eh_la k
    | .aload_n k => eh_la k.val
    | .istore k => eh_si k
    | .istore_n k => eh_si k.val
    | .lstore k => eh_sl k
    | .lstore_n k => eh_sl k.val
    | .astore k => eh_sa k
    | .astore_n k => eh_sa k.val
    | .iinc k _ => eh_inc k (ev_u v)
    | .ifCond o _ => eh_b1 o a
    | .if_icmp o _ => eh_b2 o a
    | .goto _ => eh_go a
    | .tableswitch df lo _ os => eh_sw ((pc : Int) + df).toNat ((ez_tab lo os.toList).map (fun q => (ev_u (Int32.ofInt q.1), ((pc : Int) + q.2).toNat)))
    | .lookupswitch df ps => eh_sw ((pc : Int) + df).toNat (ps.toList.map (fun q => (ev_u (Int32.ofInt q.1), ((pc : Int) + q.2).toNat)))
    | .getfield _ => (match k with
      | 0 => eh_gI a b
      | 1 => eh_gI a b
      | 2 => eh_gL a b
      | 3 => eh_gR a b
      | j + 4 => eh_gK a b j)
    | .putfield _ => (match k with
      | 0 => eh_pI a b
      | 1 => eh_pZ a b
      | 2 => eh_no
      | _ + 3 => eh_pR a b)
    | .getstatic _ => eh_gs a
    | .iaload => eh_ia
    | .baload => eh_ba
    | .laload => eh_ja
    | .iastore => eh_is
    | .bastore => eh_bs
    | .lastore => eh_js
    | .arraylength => eh_al
    | .idiv => eh_dv
    | .irem => eh_rm
    | .newarray _ => eh_na a
    | .new _ => eh_nw a b
    | .invokespecial _ => (match k with
      | 0 => eh_oi
      | k + 1 => eh_cl pc a b (k + 1))
    | .invokestatic _ => (match k with
      | 0 => eh_cl pc a b 0
      | 1 => eh_max
      | 2 => eh_min
      | _ + 3 => eh_ac)
    | .invokevirtual _ => eh_cl pc a b k
    | .ireturn => (match a with
      | 0 => eh_ri
      | _ + 1 => eh_rz)
    | .lreturn => eh_rl
    | .return_ => eh_rv
    | .athrow => eh_th a
    | _ => eh_no)
