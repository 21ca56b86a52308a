/-! THE EVALUATOR IS RIGHT. First: its numbers. -/
theorem ev_u_lt (x : Int32) : ev_u x < 4294967296 := x.toBitVec.isLt
theorem ev_u_inj {x y : Int32} (h : ev_u x = ev_u y) : x = y := Int32.toBitVec.inj (BitVec.eq_of_toNat_eq h)
theorem ev_w_inj {x y : Int64} (h : ev_w x = ev_w y) : x = y := Int64.toBitVec.inj (BitVec.eq_of_toNat_eq h)
theorem ev_i_u (x : Int32) : ev_i (ev_u x) = x := by
  apply ev_u_inj
  show (BitVec.ofNat 32 x.toBitVec.toNat).toNat = x.toBitVec.toNat
  rw [BitVec.ofNat_toNat]; simp
theorem ev_j_w (x : Int64) : ev_j (ev_w x) = x := by
  apply ev_w_inj
  show (BitVec.ofNat 64 x.toBitVec.toNat).toNat = x.toBitVec.toNat
  rw [BitVec.ofNat_toNat]; simp
theorem ef_add_ok (x y : Int32) : ev_u (x + y) = ef_add (ev_u x) (ev_u y) := by
  show (x + y).toBitVec.toNat = _
  rw [Int32.toBitVec_add, BitVec.toNat_add]; rfl
theorem ef_sub_ok (x y : Int32) : ev_u (x - y) = ef_sub (ev_u x) (ev_u y) := by
  show (x - y).toBitVec.toNat = _
  rw [Int32.toBitVec_sub, BitVec.toNat_sub]
  show (2 ^ 32 - y.toBitVec.toNat + x.toBitVec.toNat) % 2 ^ 32 = (x.toBitVec.toNat + (4294967296 - y.toBitVec.toNat)) % 4294967296
  rw [Nat.add_comm]
theorem ef_mul_ok (x y : Int32) : ev_u (x * y) = ef_mul (ev_u x) (ev_u y) := by
  show (x * y).toBitVec.toNat = _
  rw [Int32.toBitVec_mul, BitVec.toNat_mul]; rfl
theorem ef_and_ok (x y : Int32) : ev_u (x &&& y) = ef_and (ev_u x) (ev_u y) := by
  show (x &&& y).toBitVec.toNat = _
  rw [Int32.toBitVec_and, BitVec.toNat_and]; rfl
theorem ef_or_ok (x y : Int32) : ev_u (x ||| y) = ef_or (ev_u x) (ev_u y) := by
  show (x ||| y).toBitVec.toNat = _
  rw [Int32.toBitVec_or, BitVec.toNat_or]; rfl
theorem ef_xor_ok (x y : Int32) : ev_u (x ^^^ y) = ef_xor (ev_u x) (ev_u y) := by
  show (x ^^^ y).toBitVec.toNat = _
  rw [Int32.toBitVec_xor, BitVec.toNat_xor]; rfl
theorem ef_shl_ok (x y : Int32) : ev_u (x <<< (y &&& 31)) = ef_shl (ev_u x) (ev_u y) := by
  unfold ef_shl; rw [ev_i_u, ev_i_u]
theorem ef_shr_ok (x y : Int32) : ev_u (x >>> (y &&& 31)) = ef_shr (ev_u x) (ev_u y) := by
  unfold ef_shr; rw [ev_i_u, ev_i_u]
theorem ef_ushr_ok (x y : Int32) : ev_u ((x.toUInt32 >>> (y.toUInt32 &&& Int32.toUInt32 31)).toInt32) = ef_ushr (ev_u x) (ev_u y) := by
  unfold ef_ushr; rw [ev_i_u, ev_i_u]
theorem ev_e_toInt (x : Int32) : (ev_e (ev_u x) : Int) = x.toInt + 2147483648 := by
  have h1 := ev_u_lt x
  have h2 : x.toInt = if 2 * ev_u x < 4294967296 then (ev_u x : Int) else (ev_u x : Int) - 4294967296 := by
    show x.toBitVec.toInt = _
    rw [BitVec.toInt_eq_toNat_cond]; rfl
  have h3 : ev_e (ev_u x) = (ev_u x + 2147483648) % 4294967296 := rfl
  rw [h2, h3]
  split <;> omega
theorem ev_lt_iff (x y : Int32) : x < y ↔ ev_e (ev_u x) < ev_e (ev_u y) := by
  rw [Int32.lt_iff_toInt_lt]
  have h1 := ev_e_toInt x
  have h2 := ev_e_toInt y
  omega
theorem ev_le_iff (x y : Int32) : x ≤ y ↔ ev_e (ev_u x) ≤ ev_e (ev_u y) := by
  rw [Int32.le_iff_toInt_le]
  have h1 := ev_e_toInt x
  have h2 := ev_e_toInt y
  omega
theorem ev_eq_iff (x y : Int32) : x = y ↔ ev_e (ev_u x) = ev_e (ev_u y) := by
  constructor
  · rintro rfl; rfl
  · intro h
    have h1 := ev_e_toInt x
    have h2 := ev_e_toInt y
    exact Int32.toInt_inj.mp (by omega)
theorem ev_nI {x : Int32} {n : Nat} (h : ev_u x = n) (hn : n < 2147483648) : x = nI n := by
  apply ev_u_inj
  rw [h]
  show n = (Int32.ofNat n).toBitVec.toNat
  rw [Int32.toBitVec_ofNat']
  simp only [BitVec.toNat_ofNat]
  omega
theorem ev_u_nI {n : Nat} (hn : n < 4294967296) : ev_u (nI n) = n := by
  show (Int32.ofNat n).toBitVec.toNat = n
  rw [Int32.toBitVec_ofNat']
  simp only [BitVec.toNat_ofNat]
  omega
theorem ev_f_eq {α : Type} (n : Nat) (c : Nat → α) : ev_f n c = c n := by cases n <;> rfl
theorem ev_cond {α : Type} {b : Bool} {x : Option α} {r : α} (h : cond b x none = some r) : b = true ∧ x = some r := by
  cases b with
  | true => exact ⟨rfl, h⟩
  | false => cases h
theorem ev_cond' {α : Type} {b : Bool} {x : Option α} {r : α} (h : cond b none x = some r) : b = false ∧ x = some r := by
  cases b with
  | false => exact ⟨rfl, h⟩
  | true => cases h
theorem ev_and {a b : Bool} (h : and a b = true) : a = true ∧ b = true := by
  cases a <;> cases b <;> simp_all
/-! trees -/
def ev_ps (D : Nat) (t : ev_X) (k : Nat) (v : ev_X) : ev_X := match D with
  | 0 => v
  | D + 1 => match t with
    | .add l r => if k % 2 = 0 then .add (ev_ps D l (k / 2) v) r else .add l (ev_ps D r (k / 2) v)
    | w => if k % 2 = 0 then .add (ev_ps D w (k / 2) v) w else .add w (ev_ps D w (k / 2) v)
theorem ev_beq (k n : Nat) : Nat.beq k n = decide (k = n) := by
  cases h : Nat.beq k n with
  | true => simp [Nat.eq_of_beq_eq_true h]
  | false => simp [Nat.ne_of_beq_eq_false h]
theorem ev_condm {α : Type} (k : Nat) (x y : α) : cond (Nat.beq (Nat.mod k 2) 0) x y = if k % 2 = 0 then x else y := by
  rw [ev_beq]
  show cond (decide (k % 2 = 0)) x y = _
  by_cases h : k % 2 = 0 <;> simp [h]
theorem ev_s_eq {α : Type} : ∀ (D : Nat) (t : ev_X) (k : Nat) (v : ev_X) (c : ev_X → α), ev_s D t k v c = c (ev_ps D t k v)
  | 0, _, _, _, _ => rfl
  | D + 1, t, k, v, c => by
    have ih := @ev_s_eq α D
    have key : ∀ l r : ev_X, cond (Nat.beq (Nat.mod k 2) 0) (ev_s D l (k / 2) v (fun l' => c (.add l' r))) (ev_s D r (k / 2) v (fun r' => c (.add l r'))) = c (if k % 2 = 0 then .add (ev_ps D l (k / 2) v) r else .add l (ev_ps D r (k / 2) v)) := by
      intro l r
      rw [ev_condm, ih, ih]
      by_cases h : k % 2 = 0 <;> simp only [h, ↓reduceIte]
    cases t with
    | add l r => exact key l r
    | num n => exact key (.num n) (.num n)
    | var n => exact key (.var n) (.var n)
    | mul a b => exact key (.mul a b) (.mul a b)
/-- what a tree reads -/
def ev_Rd {α : Type} (R : ev_X → Nat → α) : Prop := (∀ l r k, R (.add l r) k = if k % 2 = 0 then R l (k / 2) else R r (k / 2)) ∧ (∀ n j k, R (.num n) j = R (.num n) k) ∧ (∀ n j k, R (.var n) j = R (.var n) k) ∧ (∀ a b j k, R (.mul a b) j = R (.mul a b) k)
theorem ev_Rd_g : ev_Rd ev_g := ⟨fun l r k => ev_condm k _ _, fun _ _ _ => rfl, fun _ _ _ => rfl, fun _ _ _ _ => rfl⟩
theorem ev_Rd_gc : ev_Rd ev_gc := ⟨fun l r k => ev_condm k _ _, fun _ _ _ => rfl, fun _ _ _ => rfl, fun _ _ _ _ => rfl⟩
theorem ev_ps_get {α : Type} {R : ev_X → Nat → α} (hR : ev_Rd R) {v : ev_X} (hv : ∀ j k, R v j = R v k) : ∀ (D : Nat) (t : ev_X) (k j : Nat), k < 2 ^ D → j < 2 ^ D → R (ev_ps D t k v) j = if j = k then R v 0 else R t j
  | 0, t, k, j, hk, hj => by
    have : j = k := by omega
    simp only [this, ↓reduceIte]; exact hv _ _
  | D + 1, t, k, j, hk, hj => by
    have ih := ev_ps_get hR hv D
    have h1 : k / 2 < 2 ^ D := by rw [Nat.pow_succ] at hk; omega
    have h2 : j / 2 < 2 ^ D := by rw [Nat.pow_succ] at hj; omega
    have key : ∀ l r : ev_X, (∀ k, (if k % 2 = 0 then R l (k / 2) else R r (k / 2)) = R t k) → R (if k % 2 = 0 then .add (ev_ps D l (k / 2) v) r else .add l (ev_ps D r (k / 2) v)) j = if j = k then R v 0 else R t j := by
      intro l r hw
      have hwj := hw j
      by_cases hk2 : k % 2 = 0
      · simp only [hk2, ↓reduceIte]
        rw [hR.1]
        by_cases hj2 : j % 2 = 0
        · simp only [hj2, ↓reduceIte] at hwj ⊢
          rw [ih l _ _ h1 h2, hwj]
          have : (j / 2 = k / 2) = (j = k) := by simp; omega
          simp only [this]
        · simp only [hj2, ↓reduceIte] at hwj ⊢
          have : ¬ j = k := by omega
          simp only [this, ↓reduceIte, hwj]
      · simp only [hk2, ↓reduceIte]
        rw [hR.1]
        by_cases hj2 : j % 2 = 0
        · simp only [hj2, ↓reduceIte] at hwj ⊢
          have : ¬ j = k := by omega
          simp only [this, ↓reduceIte, hwj]
        · simp only [hj2, ↓reduceIte] at hwj ⊢
          rw [ih r _ _ h1 h2, hwj]
          have : (j / 2 = k / 2) = (j = k) := by simp; omega
          simp only [this]
    cases t with
    | add l r => exact key l r (fun k => (hR.1 l r k).symm)
    | num n => exact key (.num n) (.num n) (fun k => by split <;> exact hR.2.1 _ _ _)
    | var n => exact key (.var n) (.var n) (fun k => by split <;> exact hR.2.2.1 _ _ _)
    | mul a b => exact key (.mul a b) (.mul a b) (fun k => by split <;> exact hR.2.2.2 _ _ _ _)

/-! what the evaluator's values, locals, stacks and heaps stand for -/
def ev_v (x : ev_X) (v : Value) : Prop := match x with
  | .num n => ∃ y, v = .int y ∧ ev_u y = n
  | .add a b => ∃ y, v = .int y ∧ ev_n a ≤ ev_e (ev_u y) ∧ ev_e (ev_u y) ≤ ev_n b
  | .var p => v = .ref p
  | .mul (.num j) _ => v = .retAddr j
  | .mul (.var n) _ => ∃ y, v = .long y ∧ ev_w y = n
  | _ => False
def ev_gs : List ev_X → List Value → Prop
  | [], [] => True
  | x :: r, v :: r' => ev_v x v ∧ ev_gs r r'
  | _, _ => False
def ev_lv (x : Option ev_X) (v : Option Value) : Prop := match x with
  | none => True
  | some x => ∃ w, v = some w ∧ ev_v x w
def ev_gl : ev_L → List (Option Value) → Prop
  | [], [] => True
  | x :: r, v :: r' => ev_lv x v ∧ ev_gl r r'
  | _, _ => False
def ev_gi (n : Nat) (x : Int32) : Prop := n < 4294967296 → ev_u x = n
/-- how many places a cell has -/
def ev_sz (tag len : Nat) : Nat := cond (Nat.blt tag 1000) 128 len
theorem ev_szl {tag len k : Nat} (h : k < ev_sz tag len) : k < 2 ^ ev_dp tag len := by
  unfold ev_sz at h
  unfold ev_dp
  cases hb : Nat.blt tag 1000 with
  | true => rw [hb] at h; exact h
  | false => rw [hb] at h; exact Nat.lt_trans h Nat.lt_log2_self
def ev_ce (tag len : Nat) (ai al ar : ev_X) (h : ez_H) (p : Nat) : Prop := ez_t h p = tag ∧ ez_l h p = len ∧ ∀ k, k < ev_sz tag len → ev_gi (ev_g ai k) (ez_I h p k) ∧ ev_w (ez_L h p k) = ev_g al k ∧ ez_R h p k = ev_g ar k
def ev_cel (w : ev_X) (h : ez_H) (p : Nat) : Prop := match w with
  | .mul (.add (.num tag) (.num len)) (.add ai (.add al ar)) => ev_ce tag len ai al ar h p
  | _ => True
def ev_rel (S : ev_S) (h : ez_H) : Prop := ez_n h = S.1 ∧ ez_u h = S.2.1 ∧ ∀ p, p < 128 → ev_cel (ev_gc S.2.2 p) h p
def ev_go (o : Option ev_X ⊕ Nat) (o' : ez_O) : Prop := match o, o' with
  | .inl none, .inl none => True
  | .inl (some x), .inl (some v) => ev_v x v
  | .inr a, .inr b => a = b
  | _, _ => False
def ev_scr (sc : List ev_X) (E : Nat → Nat × (Nat → Int32)) : Prop := (0 < sc.length → (E 0).1 = sc.length) ∧ (∀ n, n < sc.length → ev_v (sc.getD n (.var 0)) (.int ((E 0).2 n))) ∧ ∀ j, E (j + 1) = ((tz_ar (j + 1)).length, fun i => (tz_ar (j + 1)).getD i 0)
theorem ev_gs_cons {x : ev_X} {r : List ev_X} {st : List Value} (h : ev_gs (x :: r) st) : ∃ v r', st = v :: r' ∧ ev_v x v ∧ ev_gs r r' := by
  cases st with
  | nil => exact absurd h id
  | cons v r' => exact ⟨v, r', rfl, h.1, h.2⟩
theorem ev_gs_nil {st : List Value} (h : ev_gs [] st) : st = [] := by
  cases st with
  | nil => rfl
  | cons v r' => exact absurd h id
theorem ev_gi_hv {n : Nat} {x : Int32} (h : ev_gi n x) {c : ev_X → ev_R} {r : (Option ev_X ⊕ Nat) × ev_S} (H : ev_hv n c = some r) : ∃ y : ev_X, c y = some r ∧ ev_v y (.int x) := by
  unfold ev_hv at H
  cases hb : Nat.blt n 4294967296 with
  | true =>
    rw [hb] at H
    exact ⟨_, H, x, rfl, h (Nat.blt_eq.mp hb)⟩
  | false =>
    rw [hb] at H
    refine ⟨_, H, x, rfl, Nat.zero_le _, ?_⟩
    show (ev_u x + 2147483648) % 4294967296 ≤ 4294967295
    omega
theorem ev_top_v (x : Int32) : ev_v ev_top (.int x) := ⟨x, rfl, Nat.zero_le _, by
  show (ev_u x + 2147483648) % 4294967296 ≤ 4294967295
  omega⟩
/-! locals -/
theorem ev_gl_nth : ∀ {ls : ev_L} {ls' : List (Option Value)} (k : Nat), ev_gl ls ls' → ev_lv (ev_nth ls k) (ls'.getD k none)
  | [], [], k, _ => trivial
  | x :: r, v :: r', 0, h => h.1
  | x :: r, v :: r', k + 1, h => by
    have := ev_gl_nth (ls := r) (ls' := r') k h.2
    show ev_lv (ev_nth r k) _
    simpa using this
  | [], _ :: _, _, h => absurd h id
  | _ :: _, [], _, h => absurd h id
def ev_pl : ev_L → Nat → Option ev_X → ev_L
  | [], _, _ => []
  | a :: r, 0, v => v :: r
  | a :: r, k + 1, v => a :: ev_pl r k v
theorem ev_lset_eq : ∀ (ls : ev_L) (k : Nat) (v : Option ev_X) (c : ev_L → ev_R), ev_lset ls k v c = c (ev_pl ls k v)
  | [], _, _, _ => rfl
  | a :: r, 0, v, c => rfl
  | a :: r, k + 1, v, c => ev_lset_eq r k v (fun r' => c (a :: r'))
theorem ev_gl_set : ∀ {ls : ev_L} {ls' : List (Option Value)} (k : Nat) {x : Option ev_X} {v : Option Value}, ev_gl ls ls' → ev_lv x v → ev_gl (ev_pl ls k x) (ls'.set k v)
  | [], [], k, _, _, _, _ => trivial
  | x :: r, v :: r', 0, _, _, h, hx => ⟨hx, h.2⟩
  | x :: r, v :: r', k + 1, _, _, h, hx => ⟨h.1, ev_gl_set k h.2 hx⟩
  | [], _ :: _, _, _, _, h, _ => absurd h id
  | _ :: _, [], _, _, _, h, _ => absurd h id
theorem ev_gl_none : ∀ {ls : ev_L} {ls' : List (Option Value)} (k : Nat), ev_nth ls k = none → ev_gl ls ls' → ev_gl ls (ls'.set k none)
  | [], [], k, _, _ => trivial
  | x :: r, v :: r', 0, h1, h => ⟨by have h1 : x = none := h1; rw [h1]; trivial, h.2⟩
  | x :: r, v :: r', k + 1, h1, h => ⟨h.1, ev_gl_none k h1 h.2⟩
  | [], _ :: _, _, _, h => absurd h id
  | _ :: _, [], _, _, h => absurd h id
theorem ev_cut_ok {ls : ev_L} {ls' : List (Option Value)} {k : Nat} {c : ev_L → ev_R} {r : (Option ev_X ⊕ Nat) × ev_S} (H : ev_cut ls k c = some r) (hl : ev_gl ls ls') : ∃ l, c l = some r ∧ ev_gl l (ez_cut ls' k) := by
  cases k with
  | zero => exact ⟨ls, H, hl⟩
  | succ j =>
    have hn := ev_gl_nth j hl
    unfold ev_cut at H
    unfold ez_cut
    dsimp only at H ⊢
    cases hj : ev_nth ls j with
    | none =>
      rw [hj] at H
      refine ⟨ls, H, ?_⟩
      split
      · exact ev_gl_none j hj hl
      · exact ev_gl_none j hj hl
      · exact hl
    | some x =>
      rw [hj] at H hn
      obtain ⟨w, hw, hx⟩ := hn
      simp only [hw]
      cases x with
      | num n => obtain ⟨y, rfl, -⟩ := hx; exact ⟨ls, H, hl⟩
      | add a b => obtain ⟨y, rfl, -⟩ := hx; exact ⟨ls, H, hl⟩
      | var p => cases hx; exact ⟨ls, H, hl⟩
      | mul a b =>
        cases a with
        | num j' => cases hx; exact ⟨ls, H, hl⟩
        | var n =>
          obtain ⟨y, rfl, -⟩ := hx
          have H : ev_lset ls j none c = some r := H
          rw [ev_lset_eq] at H
          exact ⟨_, H, ev_gl_set j hl trivial⟩
        | add _ _ => exact absurd hx id
        | mul _ _ => exact absurd hx id
theorem ev_ss_ok {ls : ev_L} {ls' : List (Option Value)} {k : Nat} {x : ev_X} {v : Value} {c : ev_L → ev_R} {r : (Option ev_X ⊕ Nat) × ev_S} (H : ev_ss ls k x c = some r) (hl : ev_gl ls ls') (hx : ev_v x v) : ∃ l, c l = some r ∧ ev_gl l ((ez_cut ls' k).set k (some v)) := by
  unfold ev_ss at H
  obtain ⟨l, H, h1⟩ := ev_cut_ok H hl
  rw [ev_lset_eq] at H
  exact ⟨_, H, ev_gl_set k h1 ⟨v, rfl, hx⟩⟩
/-! cells -/
theorem ev_cl_ok {S : ev_S} {p : Nat} {c : Nat → Nat → ev_X → ev_X → ev_X → ev_R} {r : (Option ev_X ⊕ Nat) × ev_S} {h : ez_H} (H : ev_cl S p c = some r) (hr : ev_rel S h) : ∃ tag len ai al ar, p < 128 ∧ c tag len ai al ar = some r ∧ ev_ce tag len ai al ar h p := by
  unfold ev_cl at H
  obtain ⟨h1, H⟩ := ev_cond H
  have hp : p < 128 := Nat.blt_eq.mp h1
  have hc := hr.2.2 p hp
  unfold ev_op1 at H
  split at H
  · rename_i tag len ai al ar hw
    rw [hw] at hc
    exact ⟨tag, len, ai, al, ar, hp, H, hc⟩
  · cases H
theorem ev_pc_ok {S : ev_S} {p tag len : Nat} {ai al ar : ev_X} {c : ev_S → ev_R} {h h' : ez_H} (hr : ev_rel S h) (hp : p < 128) (hn : ez_n h' = ez_n h) (hu : ez_u h' = ez_u h) (ho : ∀ q, q ≠ p → ez_t h' q = ez_t h q ∧ ez_l h' q = ez_l h q ∧ ez_I h' q = ez_I h q ∧ ez_L h' q = ez_L h q ∧ ez_R h' q = ez_R h q) (hc : ev_ce tag len ai al ar h' p) : ∃ S', ev_pc S p tag len ai al ar c = c S' ∧ ev_rel S' h' := by
  refine ⟨_, ev_s_eq 7 _ _ _ _, by rw [hn]; exact hr.1, by rw [hu]; exact hr.2.1, fun q hq => ?_⟩
  show ev_cel (ev_gc (ev_ps 7 S.2.2 p _) q) h' q
  rw [ev_ps_get ev_Rd_gc (fun _ _ => rfl) 7 _ _ _ hp hq]
  by_cases hqp : q = p
  · subst hqp
    simp only [↓reduceIte]
    exact hc
  · simp only [hqp, ↓reduceIte]
    obtain ⟨a1, a2, a3, a4, a5⟩ := ho q hqp
    have := hr.2.2 q hq
    unfold ev_cel at this ⊢
    split
    · rename_i hw
      rw [hw] at this
      unfold ev_ce at this ⊢
      rw [a1, a2, a3, a4, a5]
      exact this
    · trivial
/-- an int, a long, a reference of a cell is set -/
theorem ev_setI_ok {S : ev_S} {p tag len k n : Nat} {ai al ar : ev_X} {c : ev_S → ev_R} {h : ez_H} {x : Int32} {r : (Option ev_X ⊕ Nat) × ev_S} (hr : ev_rel S h) (hp : p < 128) (hc : ev_ce tag len ai al ar h p) (hk : k < ev_sz tag len) (hx : ev_gi n x) (H : ev_s (ev_dp tag len) ai k (.num n) (fun ai => ev_pc S p tag len ai al ar c) = some r) : ∃ S', c S' = some r ∧ ev_rel S' (ez_setI h p k x) := by
  rw [ev_s_eq] at H
  obtain ⟨S', e, hS⟩ := ev_pc_ok (S := S) (c := c) (tag := tag) (len := len) (ai := ev_ps (ev_dp tag len) ai k (.num n)) (al := al) (ar := ar) (h' := ez_setI h p k x) hr hp rfl rfl (fun q hq => ⟨rfl, rfl, by
    funext j
    show ez_up2 (ez_I h) p k x q j = _
    unfold ez_up2
    simp only [hq, ↓reduceIte], rfl, rfl⟩) ⟨hc.1, hc.2.1, fun j hj => by
    obtain ⟨b1, b2, b3⟩ := hc.2.2 j hj
    refine ⟨?_, b2, b3⟩
    rw [ev_ps_get ev_Rd_g (fun _ _ => rfl) _ _ _ _ (ev_szl hk) (ev_szl hj)]
    show ev_gi _ (ez_up2 (ez_I h) p k x p j)
    unfold ez_up2
    by_cases hjk : j = k
    · simp only [hjk, ↓reduceIte]; exact hx
    · simp only [hjk, ↓reduceIte]; exact b1⟩
  rw [e] at H; exact ⟨S', H, hS⟩
theorem ev_setL_ok {S : ev_S} {p tag len k n : Nat} {ai al ar : ev_X} {c : ev_S → ev_R} {h : ez_H} {x : Int64} {r : (Option ev_X ⊕ Nat) × ev_S} (hr : ev_rel S h) (hp : p < 128) (hc : ev_ce tag len ai al ar h p) (hk : k < ev_sz tag len) (hx : ev_w x = n) (H : ev_s (ev_dp tag len) al k (.num n) (fun al => ev_pc S p tag len ai al ar c) = some r) : ∃ S', c S' = some r ∧ ev_rel S' (ez_setL h p k x) := by
  rw [ev_s_eq] at H
  obtain ⟨S', e, hS⟩ := ev_pc_ok (S := S) (c := c) (tag := tag) (len := len) (ai := ai) (al := ev_ps (ev_dp tag len) al k (.num n)) (ar := ar) (h' := ez_setL h p k x) hr hp rfl rfl (fun q hq => ⟨rfl, rfl, rfl, by
    funext j
    show ez_up2 (ez_L h) p k x q j = _
    unfold ez_up2
    simp only [hq, ↓reduceIte], rfl⟩) ⟨hc.1, hc.2.1, fun j hj => by
    obtain ⟨b1, b2, b3⟩ := hc.2.2 j hj
    refine ⟨b1, ?_, b3⟩
    rw [ev_ps_get ev_Rd_g (fun _ _ => rfl) _ _ _ _ (ev_szl hk) (ev_szl hj)]
    show ev_w (ez_up2 (ez_L h) p k x p j) = _
    unfold ez_up2
    by_cases hjk : j = k
    · simp only [hjk, ↓reduceIte]; exact hx
    · simp only [hjk, ↓reduceIte]; exact b2⟩
  rw [e] at H; exact ⟨S', H, hS⟩
theorem ev_setR_ok {S : ev_S} {p tag len k n : Nat} {ai al ar : ev_X} {c : ev_S → ev_R} {h : ez_H} {r : (Option ev_X ⊕ Nat) × ev_S} (hr : ev_rel S h) (hp : p < 128) (hc : ev_ce tag len ai al ar h p) (hk : k < ev_sz tag len) (H : ev_s (ev_dp tag len) ar k (.num n) (fun ar => ev_pc S p tag len ai al ar c) = some r) : ∃ S', c S' = some r ∧ ev_rel S' (ez_setR h p k n) := by
  rw [ev_s_eq] at H
  obtain ⟨S', e, hS⟩ := ev_pc_ok (S := S) (c := c) (tag := tag) (len := len) (ai := ai) (al := al) (ar := ev_ps (ev_dp tag len) ar k (.num n)) (h' := ez_setR h p k n) hr hp rfl rfl (fun q hq => ⟨rfl, rfl, rfl, rfl, by
    funext j
    show ez_up2 (ez_R h) p k n q j = _
    unfold ez_up2
    simp only [hq, ↓reduceIte]⟩) ⟨hc.1, hc.2.1, fun j hj => by
    obtain ⟨b1, b2, b3⟩ := hc.2.2 j hj
    refine ⟨b1, b2, ?_⟩
    rw [ev_ps_get ev_Rd_g (fun _ _ => rfl) _ _ _ _ (ev_szl hk) (ev_szl hj)]
    show ez_up2 (ez_R h) p k n p j = _
    unfold ez_up2
    by_cases hjk : j = k
    · simp only [hjk, ↓reduceIte]; rfl
    · simp only [hjk, ↓reduceIte]; exact b3⟩
  rw [e] at H; exact ⟨S', H, hS⟩
/-- a new cell -/
theorem ev_nw_ok {tag len sl : Nat} {S : ev_S} {c : Nat → ev_S → ev_R} {h : ez_H} {r : (Option ev_X ⊕ Nat) × ev_S} (hr : ev_rel S h) (H : ev_nw tag len sl S c = some r) : (ez_n h + 1 ≤ ez_MC ∧ ez_u h + sl ≤ ez_MS) ∧ ∃ S', c (ez_n h + 1) S' = some r ∧ ev_rel S' (ez_new h tag len sl) := by
  unfold ev_nw at H
  obtain ⟨hb, H⟩ := ev_cond H
  obtain ⟨h1, h2⟩ := ev_and hb
  have h1 : S.1 + 2 ≤ 128 := Nat.ble_eq.mp h1
  have h2 : S.2.1 + sl ≤ ez_MS := Nat.ble_eq.mp h2
  rw [ev_f_eq, ev_f_eq, ev_s_eq] at H
  refine ⟨⟨by rw [hr.1]; unfold ez_MC; omega, by rw [hr.2.1]; exact h2⟩, ?_⟩
  rw [hr.1]
  refine ⟨_, H, ?_, ?_, fun q hq => ?_⟩
  · show ez_n h + 1 = Nat.succ S.1; rw [hr.1]
  · show ez_u h + sl = Nat.add S.2.1 sl; rw [hr.2.1]; rfl
  · show ev_cel (ev_gc (ev_ps 7 S.2.2 (Nat.succ S.1) _) q) _ q
    rw [ev_ps_get ev_Rd_gc (fun _ _ => rfl) 7 _ _ _ (by show S.1 + 1 < 128; omega) hq]
    have e1 : ez_n h + 1 = Nat.succ S.1 := by rw [hr.1]
    by_cases hqp : q = Nat.succ S.1
    · simp only [hqp, ↓reduceIte]
      show ev_ce tag len (.num 0) (.num 0) (.num 0) _ _
      have e2 : ∀ {α : Type} (f : Nat → α) (v : α), ez_up f (ez_n h + 1) v (Nat.succ S.1) = v := fun f v => by unfold ez_up; simp only [e1, ↓reduceIte]
      have e3 : ∀ {α : Type} (f : Nat → Nat → α) (g : Nat → α), ez_row f (ez_n h + 1) g (Nat.succ S.1) = g := fun f v => by unfold ez_row; simp only [e1, ↓reduceIte]
      refine ⟨e2 _ _, e2 _ _, fun k _ => ⟨fun _ => ?_, ?_, ?_⟩⟩
      · show ev_u (ez_row (ez_I h) (ez_n h + 1) (fun _ => 0) (Nat.succ S.1) k) = 0
        rw [e3]; rfl
      · show ev_w (ez_row (ez_L h) (ez_n h + 1) (fun _ => 0) (Nat.succ S.1) k) = 0
        rw [e3]; rfl
      · show ez_row (ez_R h) (ez_n h + 1) (fun _ => 0) (Nat.succ S.1) k = 0
        rw [e3]
    · simp only [hqp, ↓reduceIte]
      have := hr.2.2 q hq
      have e2 : ∀ {α : Type} (f : Nat → α) (v : α), ez_up f (ez_n h + 1) v q = f q := fun f v => by unfold ez_up; simp only [e1, hqp, ↓reduceIte]
      have e3 : ∀ {α : Type} (f : Nat → Nat → α) (g : Nat → α), ez_row f (ez_n h + 1) g q = f q := fun f v => by unfold ez_row; simp only [e1, hqp, ↓reduceIte]
      have a1 : ez_t (ez_new h tag len sl) q = ez_t h q := e2 _ _
      have a2 : ez_l (ez_new h tag len sl) q = ez_l h q := e2 _ _
      have a3 : ez_I (ez_new h tag len sl) q = ez_I h q := e3 _ _
      have a4 : ez_L (ez_new h tag len sl) q = ez_L h q := e3 _ _
      have a5 : ez_R (ez_new h tag len sl) q = ez_R h q := e3 _ _
      unfold ev_cel at this ⊢
      split
      · rename_i hw
        rw [hw] at this
        unfold ev_ce at this ⊢
        rw [a1, a2, a3, a4, a5]
        exact this
      · trivial
theorem ev_dp_arr {tag len n : Nat} (ht : 1000 ≤ tag) (hn : n < len) : n < ev_sz tag len := by
  unfold ev_sz
  have : Nat.blt tag 1000 = false := by
    cases hb : Nat.blt tag 1000 with
    | false => rfl
    | true => have := Nat.blt_eq.mp hb; omega
  rw [this]; exact hn
theorem ev_sz_obj {tag len b : Nat} (ht : tag < 1000) (hb : b < 128) : b < ev_sz tag len := by
  unfold ev_sz
  rw [Nat.blt_eq.mpr ht]; exact hb
theorem ev_dp_obj {tag len : Nat} (ht : tag < 1000) : ev_dp tag len = 7 := by
  unfold ev_dp
  rw [Nat.blt_eq.mpr ht]; rfl
