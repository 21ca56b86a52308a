/-! THE MODEL'S CELLS: the same but for some int fields of cell 71 and the ints of some other cells -/
def zG (PF PA : Nat → Prop) (h h2 : ez_H) : Prop := ez_n h2 = ez_n h ∧ ez_u h2 = ez_u h ∧ ez_t h2 = ez_t h ∧ ez_l h2 = ez_l h ∧ ez_R h2 = ez_R h ∧ ez_L h2 = ez_L h ∧ (∀ k, ¬ PF k → ez_I h2 71 k = ez_I h 71 k) ∧ ∀ p, p ≠ 71 → ¬ PA p → ez_I h2 p = ez_I h p
theorem zG_refl (PF PA : Nat → Prop) (h : ez_H) : zG PF PA h h := ⟨rfl, rfl, rfl, rfl, rfl, rfl, fun _ _ => rfl, fun _ _ _ => rfl⟩
theorem zG_tr {PF PA : Nat → Prop} {h h1 h2 : ez_H} (A : zG PF PA h h1) (B : zG PF PA h1 h2) : zG PF PA h h2 := ⟨B.1.trans A.1, B.2.1.trans A.2.1, B.2.2.1.trans A.2.2.1, B.2.2.2.1.trans A.2.2.2.1, B.2.2.2.2.1.trans A.2.2.2.2.1, B.2.2.2.2.2.1.trans A.2.2.2.2.2.1, fun k hk => (B.2.2.2.2.2.2.1 k hk).trans (A.2.2.2.2.2.2.1 k hk), fun p h7 hp => (B.2.2.2.2.2.2.2 p h7 hp).trans (A.2.2.2.2.2.2.2 p h7 hp)⟩
theorem zG_mono {PF PA PF' PA' : Nat → Prop} {h h1 : ez_H} (A : zG PF PA h h1) (hf : ∀ k, PF k → PF' k) (ha : ∀ p, PA p → PA' p) : zG PF' PA' h h1 := ⟨A.1, A.2.1, A.2.2.1, A.2.2.2.1, A.2.2.2.2.1, A.2.2.2.2.2.1, fun k q => A.2.2.2.2.2.2.1 k (fun c => q (hf k c)), fun p h7 q => A.2.2.2.2.2.2.2 p h7 (fun c => q (ha p c))⟩
theorem zG_sh {PF PA : Nat → Prop} {h h1 : ez_H} (A : zG PF PA h h1) (S : zSh h) : zSh h1 := fun p hp => by
  rw [A.2.2.1, A.2.2.2.1, A.2.2.2.2.1]
  exact S p hp
theorem zG_f {PF PA : Nat → Prop} {h h1 : ez_H} (A : zG PF PA h h1) {k : Nat} (hk : ¬ PF k) : ez_I h1 71 k = ez_I h 71 k := A.2.2.2.2.2.2.1 k hk
theorem zG_fn {PF PA : Nat → Prop} {h h1 : ez_H} (A : zG PF PA h h1) (p : Nat) (h7 : p ≠ 71) (hp : ¬ PA p) : ez_I h1 p = ez_I h p := A.2.2.2.2.2.2.2 p h7 hp
theorem zG_a {PF PA : Nat → Prop} {h h1 : ez_H} (A : zG PF PA h h1) {p k : Nat} (h7 : p ≠ 71) (hp : ¬ PA p) : ez_I h1 p k = ez_I h p k := by rw [zG_fn A p h7 hp]
theorem zG_setF {PF PA : Nat → Prop} {h h1 h2 : ez_H} {k : Nat} {v : Int32} (A : zG PF PA h h1) (e : h2 = ez_setI h1 71 k v) (hk : PF k) : zG PF PA h h2 := by
  subst e
  refine zG_tr A ⟨rfl, rfl, rfl, rfl, rfl, rfl, fun j hj => ?_, fun q h7 hq => ?_⟩
  · exact ez_I_set_ne (fun c => hj (c.2 ▸ hk))
  · funext j
    exact ez_I_set_ne (fun c => h7 c.1)
theorem zG_setA {PF PA : Nat → Prop} {h h1 h2 : ez_H} {p k : Nat} {v : Int32} (A : zG PF PA h h1) (e : h2 = ez_setI h1 p k v) (h7 : p ≠ 71) (hp : PA p) : zG PF PA h h2 := by
  subst e
  refine zG_tr A ⟨rfl, rfl, rfl, rfl, rfl, rfl, fun j hj => ?_, fun q _ hq => ?_⟩
  · exact ez_I_set_ne (fun c => h7 c.1.symm)
  · funext j
    exact ez_I_set_ne (fun c => hq (c.1 ▸ hp))
theorem zI_fn {h h2 : ez_H} {p k : Nat} {v : Int32} (e : h2 = ez_setI h p k v) (q : Nat) (hn : q ≠ p) : ez_I h2 q = ez_I h q := by
  subst e
  funext j
  exact ez_I_set_ne (fun c => hn c.1)
section ZV
variable {X : ez_X} {E : Nat → Nat × (Nat → Int32)} {ml : Nat → Nat} {hn : Nat → Nat → Option (Nat × Nat)} {mi d pc a b k : Nat} {i : ClassFile.Instr} {v : Int32} {cs : List ez_C} {ls : List (Option Value)} {st r : List Value} {h : ez_H} {Q : ez_Q} {x y z : Int32} {p q n : Nat}
theorem z_iaV (ht : ez_t h p = 1000) (hl : ez_l h p = n) (hx : 0 ≤ x.toInt ∧ x.toInt < n) (hv : ez_I h p x.toInt.toNat = y) (H : ez_gw X E ml hn mi d cs 0 ls (.int y :: r) h Q) : ez_gw X E ml hn mi d ((pc, .iaload, a, b, k, v) :: cs) 0 ls (.int x :: .ref p :: r) h Q := z_ia ht hl hx (by rw [hv]; exact H)
theorem z_baV (ht : ez_t h p = 1003) (hl : ez_l h p = n) (hx : 0 ≤ x.toInt ∧ x.toInt < n) (hv : ez_I h p x.toInt.toNat = y) (H : ez_gw X E ml hn mi d cs 0 ls (.int y :: r) h Q) : ez_gw X E ml hn mi d ((pc, .baload, a, b, k, v) :: cs) 0 ls (.int x :: .ref p :: r) h Q := z_ba ht hl hx (by rw [hv]; exact H)
theorem z_toInt_div {x y : Int32} {c : Int} (hy : y.toInt = c) (hc : 0 < c) (hx : 0 ≤ x.toInt) : (x / y).toInt = x.toInt / c := by
  rw [z_div hy hc, Int.tdiv_eq_ediv_of_nonneg hx]
theorem z_toInt_rem {x y : Int32} {c : Int} (hy : y.toInt = c) (hc : 0 < c) (hx : 0 ≤ x.toInt) : (x - x / y * y).toInt = x.toInt % c := by
  have hd := z_toInt_div hy hc hx
  have hr := z_rng x
  have h1 : 0 ≤ x.toInt / c * c := Int.mul_nonneg (Int.ediv_nonneg hx (by omega)) (by omega)
  have h2 : x.toInt / c * c ≤ x.toInt := Int.ediv_mul_le _ (by omega)
  have hm : (x / y * y).toInt = x.toInt / c * c := by
    rw [z_toInt_mul (by rw [hd, hy]; omega), hd, hy]
  rw [z_toInt_sub (by rw [hm]; omega), hm]
  have := Int.emod_def x.toInt c
  rw [Int.mul_comm] at this
  omega
theorem z_dvP {c : Int} (hy : y.toInt = c) (hc : 0 < c) (hx : 0 ≤ x.toInt) (H : ∀ z : Int32, z.toInt = x.toInt / c → ez_gw X E ml hn mi d cs 0 ls (.int z :: r) h Q) : ez_gw X E ml hn mi d ((pc, .idiv, a, b, k, v) :: cs) 0 ls (.int y :: .int x :: r) h Q := z_dv (by omega) (fun z e => H z (by rw [e]; exact z_toInt_div hy hc hx))
theorem z_rmP {c : Int} (hy : y.toInt = c) (hc : 0 < c) (hx : 0 ≤ x.toInt) (H : ∀ z : Int32, z.toInt = x.toInt % c → ez_gw X E ml hn mi d cs 0 ls (.int z :: r) h Q) : ez_gw X E ml hn mi d ((pc, .irem, a, b, k, v) :: cs) 0 ls (.int y :: .int x :: r) h Q := z_rm (by omega) (fun z e => H z (by rw [e]; exact z_toInt_rem hy hc hx))
theorem z_rl {x : Int64} (H : Q (.inl (some (.long x))) h) : ez_gw X E ml hn mi d ((pc, .lreturn, a, b, k, v) :: cs) 0 ls [.long x] h Q := gw_rt rfl rfl rfl rfl rfl rfl trivial H
/-- longs by toInt -/
theorem z_i2l (H : ∀ z : Int64, z.toInt = x.toInt → ez_gw X E ml hn mi d cs 0 ls (.long z :: r) h Q) : ez_gw X E ml hn mi d ((pc, .i2l, a, b, k, v) :: cs) 0 ls (.int x :: r) h Q := gw_op rfl (H _ (Int32.toInt_toInt64 x))
theorem z_lC {m : Int} (hi : ez_op i v st = some (.long v.toInt64 :: st)) (hm : v.toInt = m) (H : ∀ z : Int64, z.toInt = m → ez_gw X E ml hn mi d cs 0 ls (.long z :: st) h Q) : ez_gw X E ml hn mi d ((pc, i, a, b, k, v) :: cs) 0 ls st h Q := gw_op hi (H _ (by rw [Int32.toInt_toInt64]; exact hm))
theorem z_lbmod {z : Int} (h : -9223372036854775808 ≤ z ∧ z ≤ 9223372036854775807) : z.bmod 18446744073709551616 = z := by
  rw [Int.bmod_eq_of_le] <;> omega
theorem z_ladd {x y : Int64} (hr : -9223372036854775808 ≤ x.toInt + y.toInt ∧ x.toInt + y.toInt ≤ 9223372036854775807) (H : ∀ z : Int64, z.toInt = x.toInt + y.toInt → ez_gw X E ml hn mi d cs 0 ls (.long z :: r) h Q) : ez_gw X E ml hn mi d ((pc, .ladd, a, b, k, v) :: cs) 0 ls (.long y :: .long x :: r) h Q := gw_op rfl (H _ (by rw [Int64.toInt_add]; exact z_lbmod hr))
theorem z_lmul {x y : Int64} {B : Int} (hx : 0 ≤ x.toInt ∧ x.toInt ≤ 1000000) (hy : 0 ≤ y.toInt ∧ y.toInt ≤ 1000000) (hB : ∀ p : Int, p = x.toInt * y.toInt → 0 ≤ p → p ≤ B → ∀ z : Int64, z.toInt = p → ez_gw X E ml hn mi d cs 0 ls (.long z :: r) h Q) (hb : ∀ p : Int, p = x.toInt * y.toInt → p ≤ B) : ez_gw X E ml hn mi d ((pc, .lmul, a, b, k, v) :: cs) 0 ls (.long y :: .long x :: r) h Q := gw_op rfl (hB _ rfl (Int.mul_nonneg hx.1 hy.1) (hb _ rfl) _ (by
  rw [Int64.toInt_mul]
  refine z_lbmod ⟨?_, ?_⟩
  · have := Int.mul_nonneg hx.1 hy.1
    omega
  · have : x.toInt * y.toInt ≤ 1000000 * 1000000 := Int.mul_le_mul hx.2 hy.2 hy.1 (by decide)
    omega))
theorem z_lcmp {x y : Int64} (H : ∀ z : Int32, (z.toInt = -1 ∧ x.toInt < y.toInt ∨ z.toInt = 0 ∧ x.toInt = y.toInt ∨ z.toInt = 1 ∧ y.toInt < x.toInt) → ez_gw X E ml hn mi d cs 0 ls (.int z :: r) h Q) : ez_gw X E ml hn mi d ((pc, .lcmp, a, b, k, v) :: cs) 0 ls (.long y :: .long x :: r) h Q := gw_op rfl (H _ (by
  unfold lg_cmp
  have l := @Int64.lt_iff_toInt_lt x y
  have l2 := @Int64.lt_iff_toInt_lt y x
  have q := @Int64.toInt_inj x y
  by_cases c2 : x = y
  · subst c2
    have c' : ¬ x > x := fun z => by have := l2.mp z; omega
    refine .inr (.inl ⟨?_, rfl⟩)
    simp only [c', ↓reduceIte]
    rfl
  · have n2 : ¬ x.toInt = y.toInt := fun z => c2 (q.mp z)
    by_cases c : y < x
    · have c' : x > y := c
      simp only [c2, c', ↓reduceIte]
      exact .inr (.inr ⟨rfl, l2.mp c⟩)
    · have c' : ¬ x > y := c
      have n1 : ¬ y.toInt < x.toInt := fun z => c (l2.mpr z)
      simp only [c2, c', ↓reduceIte]
      exact .inl ⟨rfl, by omega⟩))
end ZV
/-- every int of an array's first n lies in lo .. hi -/
def aR (f : Nat → Int32) (n : Nat) (lo hi : Int) : Prop := ∀ k, k < n → lo ≤ (f k).toInt ∧ (f k).toInt ≤ hi
theorem aR_0 (f : Nat → Int32) (lo hi : Int) : aR f 0 lo hi := fun k hk => by omega
theorem aR_le {f : Nat → Int32} {n m : Nat} {lo hi lo' hi' : Int} (A : aR f n lo hi) (h : m ≤ n ∧ lo' ≤ lo ∧ hi ≤ hi') : aR f m lo' hi' := fun k hk => by
  have := A k (by omega)
  omega
theorem aR_up {h h2 : ez_H} {c k n : Nat} {v : Int32} {lo hi : Int} (A : aR (ez_I h c) n lo hi) (e : h2 = ez_setI h c k v) (hv : lo ≤ v.toInt ∧ v.toInt ≤ hi) : aR (ez_I h2 c) n lo hi := fun j hj => by
  subst e
  by_cases q : j = k
  · subst q; rw [ez_I_set_eq]; exact hv
  · rw [ez_I_set_ne (fun z => q z.2)]; exact A j hj
theorem aR_ex {h h2 : ez_H} {c k n : Nat} {v : Int32} {lo hi : Int} (A : aR (ez_I h c) k lo hi) (e : h2 = ez_setI h c k v) (hv : lo ≤ v.toInt ∧ v.toInt ≤ hi) (hn : n ≤ k + 1) : aR (ez_I h2 c) n lo hi := fun j hj => by
  subst e
  by_cases q : j = k
  · subst q; rw [ez_I_set_eq]; exact hv
  · rw [ez_I_set_ne (fun z => q z.2)]; exact A j (by omega)
/-- sums -/
def sm (f : Nat → Int) : Nat → Int
  | 0 => 0
  | n + 1 => sm f n + f n
theorem sm_congr {f g : Nat → Int} {n : Nat} (h : ∀ k, k < n → f k = g k) : sm f n = sm g n := by
  induction n with
  | zero => rfl
  | succ n ih =>
    show sm f n + f n = sm g n + g n
    rw [ih (fun k hk => h k (by omega)), h n (by omega)]
theorem sm_nonneg {f : Nat → Int} {n : Nat} (h : ∀ k, k < n → 0 ≤ f k) : 0 ≤ sm f n := by
  induction n with
  | zero => exact Int.le_refl 0
  | succ n ih =>
    show 0 ≤ sm f n + f n
    have := ih (fun k hk => h k (by omega))
    have := h n (by omega)
    omega
theorem sm_mono {f : Nat → Int} {n m : Nat} (hnm : n ≤ m) (h : ∀ k, k < m → 0 ≤ f k) : sm f n ≤ sm f m := by
  induction m with
  | zero => have : n = 0 := by omega
            subst this; exact Int.le_refl _
  | succ m ih =>
    by_cases e : n = m + 1
    · subst e; exact Int.le_refl _
    · have := ih (by omega) (fun k hk => h k (by omega))
      have := h m (by omega)
      show sm f n ≤ sm f m + f m
      omega
theorem sm_le {f g : Nat → Int} {n : Nat} (h : ∀ k, k < n → f k ≤ g k) : sm f n ≤ sm g n := by
  induction n with
  | zero => exact Int.le_refl 0
  | succ n ih =>
    show sm f n + f n ≤ sm g n + g n
    have := ih (fun k hk => h k (by omega))
    have := h n (by omega)
    omega
theorem sm_const {c : Int} {n : Nat} : sm (fun _ => c) n = c * n := by
  induction n with
  | zero => rw [show ((0 : Nat) : Int) = 0 from rfl, Int.mul_zero]; rfl
  | succ n ih =>
    show sm (fun _ => c) n + c = c * ((n + 1 : Nat) : Int)
    rw [ih, Int.natCast_add, Int.mul_add]
    show _ = _ + c * 1
    rw [Int.mul_one]
def cC (h : ez_H) : Prop := ((ez_I h 92 0).toInt = 3 ∧ (ez_I h 94 0).toInt = 1) ∧ aR (ez_I h 92) 29 3 258 ∧ aR (ez_I h 93) 29 0 5 ∧ aR (ez_I h 94) 30 1 24577 ∧ aR (ez_I h 95) 30 0 13 ∧ aR (ez_I h 96) 19 0 18
theorem gw_unskip {X : ez_X} {E : Nat → Nat × (Nat → Int32)} {ml : Nat → Nat} {hn : Nat → Nat → Option (Nat × Nat)} {mi d t : Nat} {ls : List (Option Value)} {st : List Value} {h : ez_H} {Q : ez_Q} : ∀ cs : List ez_C, ez_gw X E ml hn mi d cs (t + 1) ls st h Q → ez_gw X E ml hn mi d (ev_skip t cs) 0 ls st h Q := by
  intro cs
  induction cs with
  | nil => exact id
  | cons e r ih =>
    intro H
    obtain ⟨pc, i, a, b, k, v⟩ := e
    unfold ev_skip
    by_cases he : pc = t
    · subst he
      simp only [↓reduceIte]
      unfold ez_gw at H ⊢
      simp only [show ez_past 0 pc = false from rfl]
      simp only [ev_past_eq] at H
      exact H
    · simp only [he, ↓reduceIte]
      unfold ez_gw at H
      simp only [ev_past_ne he] at H
      exact ih H
theorem ez_Wp_at {E : Nat → Nat × (Nat → Int32)} {d m pc : Nat} {ls : List (Option Value)} {st : List Value} {h : ez_H} {Q : ez_Q} {cs : List ez_C} (H : pw E d m pc ls st h Q) (e : ev_skip pc (tz_co m) = cs) : ez_gw (ez_Wp E tz_ml tz_hn tz_co) E tz_ml (tz_hn m) m d cs 0 ls st h Q := by
  subst e
  exact gw_unskip _ (ez_Wp_out H)

