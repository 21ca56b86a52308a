section
/-! RULES for walks of the pure machine whose ints are told by toInt, as omega likes them -/
theorem z_rng (x : Int32) : -2147483648 ≤ x.toInt ∧ x.toInt ≤ 2147483647 := by
  have := ev_e_toInt x
  have h : ev_e (ev_u x) ≤ 4294967295 := by
    show (ev_u x + 2147483648) % 4294967296 ≤ 4294967295
    omega
  omega
theorem z_inj {x y : Int32} (h : x.toInt = y.toInt) : x = y := Int32.toInt_inj.mp h
theorem z_bmod {z : Int} (h : -2147483648 ≤ z ∧ z ≤ 2147483647) : z.bmod 4294967296 = z := by
  rw [Int.bmod_eq_of_le] <;> omega
theorem z_toInt_add {x y : Int32} (h : -2147483648 ≤ x.toInt + y.toInt ∧ x.toInt + y.toInt ≤ 2147483647) : (x + y).toInt = x.toInt + y.toInt := by
  rw [Int32.toInt_add]; exact z_bmod h
theorem z_toInt_sub {x y : Int32} (h : -2147483648 ≤ x.toInt - y.toInt ∧ x.toInt - y.toInt ≤ 2147483647) : (x - y).toInt = x.toInt - y.toInt := by
  rw [Int32.toInt_sub]; exact z_bmod h
theorem z_toInt_mul {x y : Int32} (h : -2147483648 ≤ x.toInt * y.toInt ∧ x.toInt * y.toInt ≤ 2147483647) : (x * y).toInt = x.toInt * y.toInt := by
  rw [Int32.toInt_mul]; exact z_bmod h
theorem z_u {x : Int32} (h : 0 ≤ x.toInt) : (ev_u x : Int) = x.toInt := by
  have h1 := ev_e_toInt x
  have h2 : ev_e (ev_u x) = (ev_u x + 2147483648) % 4294967296 := rfl
  have h3 := ev_u_lt x
  omega
theorem z_u' {x : Int32} (h : x.toInt < 0) : (ev_u x : Int) = x.toInt + 4294967296 := by
  have h1 := ev_e_toInt x
  have h2 : ev_e (ev_u x) = (ev_u x + 2147483648) % 4294967296 := rfl
  have h3 := ev_u_lt x
  omega
theorem z_of_u {x : Int32} (h : ev_u x < 2147483648) : x.toInt = ev_u x := by
  have h1 := ev_e_toInt x
  have h2 : ev_e (ev_u x) = (ev_u x + 2147483648) % 4294967296 := rfl
  omega
theorem z_and_le {x y : Int32} (hy : 0 ≤ y.toInt) : 0 ≤ (x &&& y).toInt ∧ (x &&& y).toInt ≤ y.toInt := by
  have h1 := ef_and_ok x y
  have h2 := z_u hy
  have h3 : ev_u (x &&& y) ≤ ev_u y := by rw [h1]; exact Nat.and_le_right
  have h4 := z_of_u (x := x &&& y) (by have := (z_rng y).2; omega)
  omega
theorem z_and_le' {x y : Int32} (hx : 0 ≤ x.toInt) : 0 ≤ (x &&& y).toInt ∧ (x &&& y).toInt ≤ x.toInt := by
  have h1 := ef_and_ok x y
  have h2 := z_u hx
  have h3 : ev_u (x &&& y) ≤ ev_u x := by rw [h1]; exact Nat.and_le_left
  have h4 := z_of_u (x := x &&& y) (by have := (z_rng x).2; omega)
  omega
theorem z_clamp (x : Int32) : x.toNatClampNeg = x.toInt.toNat := rfl
section ZR
variable {X : ez_X} {E : Nat → Nat × (Nat → Int32)} {ml : Nat → Nat} {hn : Nat → Nat → Option (Nat × Nat)} {mi d pc a b k : Nat} {i : ClassFile.Instr} {v : Int32} {cs : List ez_C} {ls : List (Option Value)} {st r : List Value} {h : ez_H} {Q : ez_Q} {x y z : Int32} {p q n : Nat}
theorem z_C {m : Int} (hi : ez_op i v st = some (.int v :: st)) (hn' : v.toInt = m) (H : ∀ x : Int32, x.toInt = m → ez_gw X E ml hn mi d cs 0 ls (.int x :: st) h Q) : ez_gw X E ml hn mi d ((pc, i, a, b, k, v) :: cs) 0 ls st h Q := gw_op hi (H v hn')
theorem z_add (hr : -2147483648 ≤ x.toInt + y.toInt ∧ x.toInt + y.toInt ≤ 2147483647) (H : ∀ z : Int32, z.toInt = x.toInt + y.toInt → ez_gw X E ml hn mi d cs 0 ls (.int z :: r) h Q) : ez_gw X E ml hn mi d ((pc, .iadd, a, b, k, v) :: cs) 0 ls (.int y :: .int x :: r) h Q := gw_op rfl (H _ (z_toInt_add hr))
theorem z_addW (H : ∀ z : Int32, z = x + y → ez_gw X E ml hn mi d cs 0 ls (.int z :: r) h Q) : ez_gw X E ml hn mi d ((pc, .iadd, a, b, k, v) :: cs) 0 ls (.int y :: .int x :: r) h Q := gw_op rfl (H _ rfl)
theorem z_sub (hr : -2147483648 ≤ x.toInt - y.toInt ∧ x.toInt - y.toInt ≤ 2147483647) (H : ∀ z : Int32, z.toInt = x.toInt - y.toInt → ez_gw X E ml hn mi d cs 0 ls (.int z :: r) h Q) : ez_gw X E ml hn mi d ((pc, .isub, a, b, k, v) :: cs) 0 ls (.int y :: .int x :: r) h Q := gw_op rfl (H _ (z_toInt_sub hr))
theorem z_mul (hr : -2147483648 ≤ x.toInt * y.toInt ∧ x.toInt * y.toInt ≤ 2147483647) (H : ∀ z : Int32, z.toInt = x.toInt * y.toInt → ez_gw X E ml hn mi d cs 0 ls (.int z :: r) h Q) : ez_gw X E ml hn mi d ((pc, .imul, a, b, k, v) :: cs) 0 ls (.int y :: .int x :: r) h Q := gw_op rfl (H _ (z_toInt_mul hr))
theorem z_mulW (H : ∀ z : Int32, z = x * y → ez_gw X E ml hn mi d cs 0 ls (.int z :: r) h Q) : ez_gw X E ml hn mi d ((pc, .imul, a, b, k, v) :: cs) 0 ls (.int y :: .int x :: r) h Q := gw_op rfl (H _ rfl)
theorem z_mulR {c : Int} (hy : y.toInt = c) (hr : -2147483648 ≤ x.toInt * c ∧ x.toInt * c ≤ 2147483647) (H : ∀ z : Int32, z.toInt = x.toInt * c → ez_gw X E ml hn mi d cs 0 ls (.int z :: r) h Q) : ez_gw X E ml hn mi d ((pc, .imul, a, b, k, v) :: cs) 0 ls (.int y :: .int x :: r) h Q := by
  subst hy; exact z_mul hr H
theorem z_mulL {c : Int} (hx : x.toInt = c) (hr : -2147483648 ≤ c * y.toInt ∧ c * y.toInt ≤ 2147483647) (H : ∀ z : Int32, z.toInt = c * y.toInt → ez_gw X E ml hn mi d cs 0 ls (.int z :: r) h Q) : ez_gw X E ml hn mi d ((pc, .imul, a, b, k, v) :: cs) 0 ls (.int y :: .int x :: r) h Q := by
  subst hx; exact z_mul hr H
theorem z_ac {f n m : Nat} {sp dp len : Int32} (hf : ez_few r = true) (tp : ez_t h p = 1000) (tq : ez_t h q = 1000) (lp : ez_l h p = n) (lq : ez_l h q = m) (hx : 0 ≤ sp.toInt ∧ 0 ≤ dp.toInt ∧ 0 ≤ len.toInt ∧ sp.toInt + len.toInt ≤ n ∧ dp.toInt + len.toInt ≤ m) (H : ∀ h2, h2 = ez_rowI h q (va_cpy (ez_I h p) (ez_I h q) sp.toInt.toNat dp.toInt.toNat len.toInt.toNat) → ez_gw X E ml hn mi d cs 0 ls r h2 Q) : ez_gw X E ml hn mi d ((pc, .invokestatic f, a, b, 3, v) :: cs) 0 ls (.int len :: .int dp :: .ref q :: .int sp :: .ref p :: r) h Q := by
  have nl : ∀ x : Int32, 0 ≤ x.toInt → ¬ x < 0 := fun x hx c => by
    have := Int32.lt_iff_toInt_lt.mp c
    have e : (0 : Int32).toInt = 0 := rfl
    omega
  refine gw_sm rfl rfl rfl rfl rfl ⟨hf, ⟨tp, tq⟩, nl _ hx.1, nl _ hx.2.1, nl _ hx.2.2.1, ?_, ?_⟩ (H _ rfl)
  · rw [lp, z_clamp, z_clamp]; omega
  · rw [lq, z_clamp, z_clamp]; omega
theorem z_and (H : ∀ z : Int32, z = x &&& y → (0 ≤ y.toInt → 0 ≤ z.toInt ∧ z.toInt ≤ y.toInt) → (0 ≤ x.toInt → 0 ≤ z.toInt ∧ z.toInt ≤ x.toInt) → ez_gw X E ml hn mi d cs 0 ls (.int z :: r) h Q) : ez_gw X E ml hn mi d ((pc, .iand, a, b, k, v) :: cs) 0 ls (.int y :: .int x :: r) h Q := gw_op rfl (H _ rfl z_and_le z_and_le')
/-- any op of two ints, of one -/
theorem z_2 {g : Int32} (hi : ez_op i v (.int y :: .int x :: r) = some (.int g :: r)) (H : ∀ z : Int32, z = g → ez_gw X E ml hn mi d cs 0 ls (.int z :: r) h Q) : ez_gw X E ml hn mi d ((pc, i, a, b, k, v) :: cs) 0 ls (.int y :: .int x :: r) h Q := gw_op hi (H _ rfl)
theorem z_1 {g : Int32} (hi : ez_op i v (.int x :: r) = some (.int g :: r)) (H : ∀ z : Int32, z = g → ez_gw X E ml hn mi d cs 0 ls (.int z :: r) h Q) : ez_gw X E ml hn mi d ((pc, i, a, b, k, v) :: cs) 0 ls (.int x :: r) h Q := gw_op hi (H _ rfl)
theorem z_inc {w : Int} (hx : ls.getD n none = some (.int x)) (hr : -2147483648 ≤ x.toInt + v.toInt ∧ x.toInt + v.toInt ≤ 2147483647) (H : ∀ z : Int32, z.toInt = x.toInt + v.toInt → ez_gw X E ml hn mi d cs 0 ((ez_cut ls n).set n (some (.int z))) st h Q) : ez_gw X E ml hn mi d ((pc, .iinc n w, a, b, k, v) :: cs) 0 ls st h Q := gw_st rfl rfl (by unfold ez_st; simp only [hx]) (H _ (z_toInt_add hr))
/-- branches -/
def z_ask (o : ClassFile.Cond) (x y : Int) : Prop := match o with
  | .eq => x = y
  | .ne => x ≠ y
  | .lt => x < y
  | .ge => y ≤ x
  | .gt => y < x
  | .le => x ≤ y
theorem z_ask_iff {o : ClassFile.Cond} : ev_ask o x y ↔ z_ask o x.toInt y.toInt := by
  cases o with
  | eq => exact Int32.toInt_inj.symm
  | ne => exact not_congr Int32.toInt_inj.symm
  | lt => exact Int32.lt_iff_toInt_lt
  | ge => exact Int32.le_iff_toInt_le
  | gt => exact Int32.lt_iff_toInt_lt
  | le => exact Int32.le_iff_toInt_le
theorem z_b1 {o : ClassFile.Cond} {w : Int} (Ht : z_ask o x.toInt 0 → ev_Jp X E ml hn mi d cs pc a ls r h Q) (Hf : ¬ z_ask o x.toInt 0 → ez_gw X E ml hn mi d cs 0 ls r h Q) : ez_gw X E ml hn mi d ((pc, .ifCond o w, a, b, k, v) :: cs) 0 ls (.int x :: r) h Q := by
  have e : ez_br (.ifCond o w) (.int x :: r) = some (ev_ask o x 0, r) := by
    unfold ez_br ev_ask; cases o <;> rfl
  have z := z_ask_iff (o := o) (x := x) (y := 0)
  exact gw_br rfl rfl rfl e (fun c => Ht (z.mp c)) (fun c => Hf (fun c' => c (z.mpr c')))
theorem z_b2 {o : ClassFile.Cond} {w : Int} (Ht : z_ask o x.toInt y.toInt → ev_Jp X E ml hn mi d cs pc a ls r h Q) (Hf : ¬ z_ask o x.toInt y.toInt → ez_gw X E ml hn mi d cs 0 ls r h Q) : ez_gw X E ml hn mi d ((pc, .if_icmp o w, a, b, k, v) :: cs) 0 ls (.int y :: .int x :: r) h Q := by
  have e : ez_br (.if_icmp o w) (.int y :: .int x :: r) = some (ev_ask o x y, r) := by
    unfold ez_br ev_ask; cases o <;> rfl
  have z := z_ask_iff (o := o) (x := x) (y := y)
  exact gw_br rfl rfl rfl e (fun c => Ht (z.mp c)) (fun c => Hf (fun c' => c (z.mpr c')))
theorem z_go {w : Int} (H : ev_Jp X E ml hn mi d cs pc a ls st h Q) : ez_gw X E ml hn mi d ((pc, .goto w, a, b, k, v) :: cs) 0 ls st h Q := gw_jp rfl rfl rfl rfl rfl rfl rfl H
/-- fields, arrays -/
theorem z_gI {f : Nat} (hk : k = 0 ∨ k = 1) (ht : ez_t h p = a) (H : ez_gw X E ml hn mi d cs 0 ls (.int (ez_I h p b) :: r) h Q) : ez_gw X E ml hn mi d ((pc, .getfield f, a, b, k, v) :: cs) 0 ls (.ref p :: r) h Q := by
  rcases hk with rfl | rfl <;> exact gw_sm rfl rfl rfl rfl rfl ht H
theorem z_gR {f : Nat} (ht : ez_t h p = a) (hq : ez_R h p b = q) (h0 : q ≠ 0) (H : ez_gw X E ml hn mi d cs 0 ls (.ref q :: r) h Q) : ez_gw X E ml hn mi d ((pc, .getfield f, a, b, 3, v) :: cs) 0 ls (.ref p :: r) h Q := by
  subst hq
  exact gw_sm rfl rfl rfl rfl rfl ⟨ht, h0⟩ H
theorem z_pI {f : Nat} (ht : ez_t h p = a) (H : ∀ h2, h2 = ez_setI h p b x → ez_gw X E ml hn mi d cs 0 ls r h2 Q) : ez_gw X E ml hn mi d ((pc, .putfield f, a, b, 0, v) :: cs) 0 ls (.int x :: .ref p :: r) h Q := gw_sm rfl rfl rfl rfl rfl ht (H _ rfl)
theorem z_pZ {f : Nat} (ht : ez_t h p = a) (hx : x.toInt = 0 ∨ x.toInt = 1) (H : ∀ h2, h2 = ez_setI h p b x → ez_gw X E ml hn mi d cs 0 ls r h2 Q) : ez_gw X E ml hn mi d ((pc, .putfield f, a, b, 1, v) :: cs) 0 ls (.int x :: .ref p :: r) h Q := gw_sm rfl rfl rfl rfl rfl ⟨ht, hx.imp (fun e => z_inj e) (fun e => z_inj e)⟩ (H _ rfl)
theorem z_gs {f : Nat} (H : ez_gw X E ml hn mi d cs 0 ls (.retAddr a :: st) h Q) : ez_gw X E ml hn mi d ((pc, .getstatic f, a, b, k, v) :: cs) 0 ls st h Q := gw_sm rfl rfl rfl rfl rfl trivial H
theorem z_ia (ht : ez_t h p = 1000) (hl : ez_l h p = n) (hx : 0 ≤ x.toInt ∧ x.toInt < n) (H : ez_gw X E ml hn mi d cs 0 ls (.int (ez_I h p x.toInt.toNat) :: r) h Q) : ez_gw X E ml hn mi d ((pc, .iaload, a, b, k, v) :: cs) 0 ls (.int x :: .ref p :: r) h Q := gw_sm rfl rfl rfl rfl rfl ⟨ht, by rw [hl]; exact vp_in_iff.mpr hx⟩ H
theorem z_iaE {j : Nat} {f : Nat → Int32} (he : E j = (n, f)) (hx : 0 ≤ x.toInt ∧ x.toInt < n) (H : ez_gw X E ml hn mi d cs 0 ls (.int (f x.toInt.toNat) :: r) h Q) : ez_gw X E ml hn mi d ((pc, .iaload, a, b, k, v) :: cs) 0 ls (.int x :: .retAddr j :: r) h Q := gw_sm rfl rfl rfl rfl rfl (by rw [he]; exact vp_in_iff.mpr hx) (by rw [he]; exact H)
theorem z_ba (ht : ez_t h p = 1003) (hl : ez_l h p = n) (hx : 0 ≤ x.toInt ∧ x.toInt < n) (H : ez_gw X E ml hn mi d cs 0 ls (.int (ez_I h p x.toInt.toNat) :: r) h Q) : ez_gw X E ml hn mi d ((pc, .baload, a, b, k, v) :: cs) 0 ls (.int x :: .ref p :: r) h Q := gw_sm rfl rfl rfl rfl rfl ⟨ht, by rw [hl]; exact vp_in_iff.mpr hx⟩ H
theorem z_la (ht : ez_t h p = 1002) (hl : ez_l h p = n) (hx : 0 ≤ x.toInt ∧ x.toInt < n) (H : ez_gw X E ml hn mi d cs 0 ls (.long (ez_L h p x.toInt.toNat) :: r) h Q) : ez_gw X E ml hn mi d ((pc, .laload, a, b, k, v) :: cs) 0 ls (.int x :: .ref p :: r) h Q := gw_sm rfl rfl rfl rfl rfl ⟨ht, by rw [hl]; exact vp_in_iff.mpr hx⟩ H
theorem z_is (ht : ez_t h p = 1000) (hl : ez_l h p = n) (hx : 0 ≤ x.toInt ∧ x.toInt < n) (H : ∀ h2, h2 = ez_setI h p x.toInt.toNat y → ez_gw X E ml hn mi d cs 0 ls r h2 Q) : ez_gw X E ml hn mi d ((pc, .iastore, a, b, k, v) :: cs) 0 ls (.int y :: .int x :: .ref p :: r) h Q := gw_sm rfl rfl rfl rfl rfl ⟨ht, by rw [hl]; exact vp_in_iff.mpr hx⟩ (H _ rfl)
theorem z_bs (ht : ez_t h p = 1003) (hl : ez_l h p = n) (hx : 0 ≤ x.toInt ∧ x.toInt < n) (H : ∀ h2, h2 = ez_setI h p x.toInt.toNat y.toInt8.toInt32 → ez_gw X E ml hn mi d cs 0 ls r h2 Q) : ez_gw X E ml hn mi d ((pc, .bastore, a, b, k, v) :: cs) 0 ls (.int y :: .int x :: .ref p :: r) h Q := gw_sm rfl rfl rfl rfl rfl ⟨ht, by rw [hl]; exact vp_in_iff.mpr hx⟩ (H _ rfl)
theorem z_ls {y : Int64} (ht : ez_t h p = 1002) (hl : ez_l h p = n) (hx : 0 ≤ x.toInt ∧ x.toInt < n) (H : ∀ h2, h2 = ez_setL h p x.toInt.toNat y → ez_gw X E ml hn mi d cs 0 ls r h2 Q) : ez_gw X E ml hn mi d ((pc, .lastore, a, b, k, v) :: cs) 0 ls (.long y :: .int x :: .ref p :: r) h Q := gw_sm rfl rfl rfl rfl rfl ⟨ht, by rw [hl]; exact vp_in_iff.mpr hx⟩ (H _ rfl)
theorem z_nI {n : Nat} (hn : n < 2147483648) : (nI n).toInt = n := nI_toInt hn
theorem z_al (ht : ez_t h p = 1000 ∨ ez_t h p = 1002 ∨ ez_t h p = 1003) (hl : ez_l h p = n) (hn' : n < 2147483648) (H : ∀ x : Int32, x.toInt = n → ez_gw X E ml hn mi d cs 0 ls (.int x :: r) h Q) : ez_gw X E ml hn mi d ((pc, .arraylength, a, b, k, v) :: cs) 0 ls (.ref p :: r) h Q := gw_sm rfl rfl rfl rfl rfl ht (H _ (by rw [hl]; exact z_nI hn'))
theorem z_alE {j : Nat} (he : (E j).1 = n) (hn' : n < 2147483648) (H : ∀ x : Int32, x.toInt = n → ez_gw X E ml hn mi d cs 0 ls (.int x :: r) h Q) : ez_gw X E ml hn mi d ((pc, .arraylength, a, b, k, v) :: cs) 0 ls (.retAddr j :: r) h Q := gw_sm rfl rfl rfl rfl rfl trivial (H _ (by rw [he]; exact z_nI hn'))
theorem z_dv (hy : y.toInt ≠ 0) (H : ∀ z : Int32, z = x / y → ez_gw X E ml hn mi d cs 0 ls (.int z :: r) h Q) : ez_gw X E ml hn mi d ((pc, .idiv, a, b, k, v) :: cs) 0 ls (.int y :: .int x :: r) h Q := gw_sm rfl rfl rfl rfl rfl (fun e => hy (by rw [e]; rfl)) (H _ rfl)
theorem z_rm (hy : y.toInt ≠ 0) (H : ∀ z : Int32, z = x - x / y * y → ez_gw X E ml hn mi d cs 0 ls (.int z :: r) h Q) : ez_gw X E ml hn mi d ((pc, .irem, a, b, k, v) :: cs) 0 ls (.int y :: .int x :: r) h Q := gw_sm rfl rfl rfl rfl rfl (fun e => hy (by rw [e]; rfl)) (H _ rfl)
theorem z_max {f : Nat} (hf : ez_few r = true) (H : ∀ z : Int32, ((x.toInt < y.toInt ∧ z.toInt = y.toInt) ∨ (y.toInt ≤ x.toInt ∧ z.toInt = x.toInt)) → ez_gw X E ml hn mi d cs 0 ls (.int z :: r) h Q) : ez_gw X E ml hn mi d ((pc, .invokestatic f, a, b, 1, v) :: cs) 0 ls (.int y :: .int x :: r) h Q := gw_sm rfl rfl rfl rfl rfl hf (H _ (by
  by_cases c : x < y
  · exact .inl ⟨Int32.lt_iff_toInt_lt.mp c, by simp only [c, ↓reduceIte]⟩
  · exact .inr ⟨by have := mt Int32.lt_iff_toInt_lt.mpr c; omega, by simp only [c, ↓reduceIte]⟩))
theorem z_min {f : Nat} (hf : ez_few r = true) (H : ∀ z : Int32, ((y.toInt < x.toInt ∧ z.toInt = y.toInt) ∨ (x.toInt ≤ y.toInt ∧ z.toInt = x.toInt)) → ez_gw X E ml hn mi d cs 0 ls (.int z :: r) h Q) : ez_gw X E ml hn mi d ((pc, .invokestatic f, a, b, 2, v) :: cs) 0 ls (.int y :: .int x :: r) h Q := gw_sm rfl rfl rfl rfl rfl hf (H _ (by
  by_cases c : y < x
  · exact .inl ⟨Int32.lt_iff_toInt_lt.mp c, by simp only [c, ↓reduceIte]⟩
  · exact .inr ⟨by have := mt Int32.lt_iff_toInt_lt.mpr c; omega, by simp only [c, ↓reduceIte]⟩))
theorem z_ri (H : Q (.inl (some (.int x))) h) : ez_gw X E ml hn mi d ((pc, .ireturn, 0, b, k, v) :: cs) 0 ls [.int x] h Q := gw_rt rfl rfl rfl rfl rfl rfl trivial H
theorem z_rz (hx : x.toInt = 0 ∨ x.toInt = 1) (H : Q (.inl (some (.int x))) h) : ez_gw X E ml hn mi d ((pc, .ireturn, 1, b, k, v) :: cs) 0 ls [.int x] h Q := gw_rt rfl rfl rfl rfl rfl rfl (hx.imp (fun e => z_inj e) (fun e => z_inj e)) H
theorem z_rv (H : Q (.inl none) h) : ez_gw X E ml hn mi d ((pc, .return_, a, b, k, v) :: cs) 0 ls [] h Q := gw_rt rfl rfl rfl rfl rfl rfl trivial H
end ZR

end
section
theorem ez_I_set_ne {h : ez_H} {p k q j : Nat} {v : Int32} (hn : ¬ (q = p ∧ j = k)) : ez_I (ez_setI h p k v) q j = ez_I h q j := by
  show ez_up2 (ez_I h) p k v q j = _
  unfold ez_up2
  by_cases hq : q = p
  · have : ¬ j = k := fun e => hn ⟨hq, e⟩
    simp only [hq, this, ↓reduceIte]
  · simp only [hq, ↓reduceIte]
theorem ez_I_set_eq {h : ez_H} {p k : Nat} {v : Int32} : ez_I (ez_setI h p k v) p k = v := by
  show ez_up2 (ez_I h) p k v p k = _
  unfold ez_up2
  simp only [↓reduceIte]
end
section
/-! the cells' shape behind the constructors, as it stands for good -/
def zSh (h : ez_H) : Prop := ∀ p, 1 ≤ p ∧ p ≤ 126 → ez_t h p = ly_T p ∧ ez_l h p = ly_N p ∧ (ly_T p < 1000 → ∀ k, k < 128 → ez_R h p k = ly_R p k)
theorem zSh_set {h h2 : ez_H} {p k : Nat} {v : Int32} (S : zSh h) (e : h2 = ez_setI h p k v) : zSh h2 := by subst e; exact S
theorem zSh_row {h h2 : ez_H} {p : Nat} {g : Nat → Int32} (S : zSh h) (e : h2 = ez_rowI h p g) : zSh h2 := by subst e; exact S
theorem zSh_L {h h2 : ez_H} {p k : Nat} {v : Int64} (S : zSh h) (e : h2 = ez_setL h p k v) : zSh h2 := by subst e; exact S
theorem zT {h : ez_H} (S : zSh h) {p t : Nat} (hp : 1 ≤ p ∧ p ≤ 126) (e : ly_T p = t) : ez_t h p = t := by rw [(S p hp).1]; exact e
theorem zN {h : ez_H} (S : zSh h) {p t : Nat} (hp : 1 ≤ p ∧ p ≤ 126) (e : ly_N p = t) : ez_l h p = t := by rw [(S p hp).2.1]; exact e
theorem zRf {h : ez_H} (S : zSh h) {p k q : Nat} (hp : (1 ≤ p ∧ p ≤ 126) ∧ ly_T p < 1000) (hk : k < 128) (e : ly_R p k = q) : ez_R h p k = q := by rw [(S p hp.1).2.2 hp.2 k hk]; exact e
theorem zI_ne {h h2 : ez_H} {p k q j : Nat} {v : Int32} (e : h2 = ez_setI h p k v) (hn : ¬ (q = p ∧ j = k)) : ez_I h2 q j = ez_I h q j := by subst e; exact ez_I_set_ne hn
theorem zI_eq {h h2 : ez_H} {p k : Nat} {v : Int32} (e : h2 = ez_setI h p k v) : ez_I h2 p k = v := by subst e; exact ez_I_set_eq
theorem zI_row {h h2 : ez_H} {p q j : Nat} {g : Nat → Int32} (e : h2 = ez_rowI h p g) (hn : q ≠ p) : ez_I h2 q j = ez_I h q j := by
  subst e
  show ez_row (ez_I h) p g q j = _
  unfold ez_row
  simp only [hn, ↓reduceIte]
theorem z_gI2 {X : ez_X} {E : Nat → Nat × (Nat → Int32)} {ml : Nat → Nat} {hn : Nat → Nat → Option (Nat × Nat)} {mi d pc a b k f p : Nat} {v x : Int32} {cs : List ez_C} {ls : List (Option Value)} {r : List Value} {h : ez_H} {Q : ez_Q} (hk : k = 0 ∨ k = 1) (ht : ez_t h p = a) (hx : ez_I h p b = x) (H : ez_gw X E ml hn mi d cs 0 ls (.int x :: r) h Q) : ez_gw X E ml hn mi d ((pc, .getfield f, a, b, k, v) :: cs) 0 ls (.ref p :: r) h Q := z_gI hk ht (by rw [hx]; exact H)
/-- a call -/
theorem z_cl {X : ez_X} {E : Nat → Nat × (Nat → Int32)} {ml : Nat → Nat} {hn : Nat → Nat → Option (Nat × Nat)} {mi d pc a b k : Nat} {i : ClassFile.Instr} {v : Int32} {cs : List ez_C} {ls : List (Option Value)} {st st2 : List Value} {h : ez_H} {Q : ez_Q} (h0 : ez_op i v st = none) (h1 : ez_ld i ls st = none) (h2 : ez_st i v ls st = none) (h3 : ez_br i st = none) (h4 : ez_sm E i a b k ls st h = none) (h5 : ez_rt i a st = none) (h6 : ez_jp i pc a st = (none, st2)) (h7 : ez_cl i k = true) (hf : ez_few (st.drop b) = true) (hm : Nat.ble (ez_lay (st.take b).reverse).length (ml a) = true) (hb : Nat.beq (st.take b).reverse.length b = true) (hr : ez_rcv h k (st.take b).reverse) (H : X d a 0 (ez_args (ml a) (st.take b).reverse) [] h (fun o h' => match o with
    | .inl none => ez_gw X E ml hn mi (d + 1) cs 0 ls (st.drop b) h' Q
    | .inl (some w) => ez_gw X E ml hn mi (d + 1) cs 0 ls (w :: st.drop b) h' Q
    | .inr x => match hn pc x with
      | none => Q (.inr x) h'
      | some (t, j) => (match t with
        | 0 => False
        | t' + 1 => ez_gw X E ml hn mi (d + 1) cs (t' + 2) ((ez_cut ls j).set j none) [] h' Q))) : ez_gw X E ml hn mi (d + 1) ((pc, i, a, b, k, v) :: cs) 0 ls st h Q :=
  gw_cl h0 h1 h2 h3 h4 h5 h6 h7 (by unfold ev_Cp; exact ⟨⟨hf, hm, hb, hr⟩, H⟩)

end
section
/-! THE CLASS'S OWN CELLS: what always holds of them -/
abbrev zE (E : Nat → Nat × (Nat → Int32)) : Prop := ∀ j, E (j + 1) = ((tz_ar (j + 1)).length, fun i => (tz_ar (j + 1)).getD i 0)
theorem zRow {h : ez_H} {p : Nat} (S : zSh h) (hp : p = 2 ∨ p = 4 ∨ p = 50) : ez_t h p = 12 ∧ ez_R h p 0 = p + 1 ∧ ez_t h (p + 1) = 1000 ∧ ez_l h (p + 1) = 6100 := by
  rcases hp with rfl | rfl | rfl <;> exact ⟨zT S (by decide) rfl, zRf S (by decide) (by decide) rfl, zT S (by decide) rfl, zN S (by decide) rfl⟩
theorem zCode {h : ez_H} {p : Nat} (S : zSh h) (hp : p = 15 ∨ p = 22 ∨ p = 29 ∨ p = 36 ∨ p = 43) : ez_t h p = 5 ∧ (ez_R h p 0 = p + 1 ∧ ez_R h p 1 = p + 2 ∧ ez_R h p 2 = p + 3 ∧ ez_R h p 3 = p + 4 ∧ ez_R h p 5 = p + 5 ∧ ez_R h p 6 = p + 6) ∧ (ez_t h (p + 1) = 1000 ∧ ez_t h (p + 2) = 1000 ∧ ez_t h (p + 3) = 1000 ∧ ez_t h (p + 4) = 1000 ∧ ez_t h (p + 5) = 1000 ∧ ez_t h (p + 6) = 1000) ∧ (ez_l h (p + 1) = 288 ∧ ez_l h (p + 2) = 288 ∧ ez_l h (p + 3) = 16 ∧ ez_l h (p + 4) = 288 ∧ ez_l h (p + 5) = 16 ∧ ez_l h (p + 6) = 16) := by
  rcases hp with rfl | rfl | rfl | rfl | rfl <;> exact ⟨zT S (by decide) rfl, ⟨zRf S (by decide) (by decide) rfl, zRf S (by decide) (by decide) rfl, zRf S (by decide) (by decide) rfl, zRf S (by decide) (by decide) rfl, zRf S (by decide) (by decide) rfl, zRf S (by decide) (by decide) rfl⟩, ⟨zT S (by decide) rfl, zT S (by decide) rfl, zT S (by decide) rfl, zT S (by decide) rfl, zT S (by decide) rfl, zT S (by decide) rfl⟩, zN S (by decide) rfl, zN S (by decide) rfl, zN S (by decide) rfl, zN S (by decide) rfl, zN S (by decide) rfl, zN S (by decide) rfl⟩

end
section
/-! PRINTED by wip/p17/con2.py: contracts of the class, first part -/
/-- an array's kind and length, in every heap of the shape -/
def zA (w n : Nat) : Prop := ∀ h, zSh h → ez_t h w = 1000 ∧ ez_l h w = n
end
section
theorem z_div {x y : Int32} {c : Int} (hy : y.toInt = c) (hc : 0 < c) : (x / y).toInt = x.toInt.tdiv c := by
  rw [Int32.toInt_div_of_ne_right x y (by intro e; rw [e] at hy; have : (-1 : Int32).toInt = -1 := rfl; omega), hy]
theorem z_shr {x y : Int32} {n : Nat} (hy : y.toInt = n) (hn : n < 32) : (x >>> (y &&& 31)).toInt = x.toInt / 2 ^ n := by
  have ey : y = Int32.ofNat n := z_inj (by
    rw [hy]; exact (z_nI (n := n) (by omega)).symm)
  have : ∀ m : Nat, m < 32 → ∀ x : Int32, (x >>> (Int32.ofNat m &&& 31)).toInt = x.toInt / 2 ^ m := by
    intro m hm x
    have e : (Int32.ofNat m &&& 31) = Int32.ofNat m := by
      revert m
      decide
    rw [e]
    show (x >>> Int32.ofNat m).toBitVec.toInt = _
    rw [Int32.toBitVec_shiftRight]
    have e2 : ((Int32.ofNat m).toBitVec.smod 32).toNat = m := by
      clear e
      revert m
      decide
    rw [BitVec.sshiftRight', e2, BitVec.toInt_sshiftRight, Int.shiftRight_eq_div_pow]
    rfl
  rw [ey]
  exact this n hn x
theorem z_ushr20 {x y : Int32} (hy : y.toInt = 20) : 0 ≤ ((x.toUInt32 >>> (y.toUInt32 &&& Int32.toUInt32 31)).toInt32).toInt ∧ ((x.toUInt32 >>> (y.toUInt32 &&& Int32.toUInt32 31)).toInt32).toInt ≤ 4095 := by
  have ey : y = 20 := z_inj hy
  subst ey
  have e : ev_u ((x.toUInt32 >>> ((20 : Int32).toUInt32 &&& Int32.toUInt32 31)).toInt32) < 4096 := by
    show (x.toBitVec >>> (((20 : Int32).toUInt32 &&& Int32.toUInt32 31).toBitVec % 32)).toNat < 4096
    have e2 : (((20 : Int32).toUInt32 &&& Int32.toUInt32 31).toBitVec % 32).toNat = 20 := by decide
    rw [BitVec.ushiftRight_eq', BitVec.toNat_ushiftRight, e2, Nat.shiftRight_eq_div_pow]
    have := x.toBitVec.isLt
    omega
  have := z_of_u (x := (x.toUInt32 >>> ((20 : Int32).toUInt32 &&& Int32.toUInt32 31)).toInt32) (by omega)
  omega
/-! PRINTED by wip/p17/con3.py: contracts of the class, second part -/
end
section
theorem z_th {X : ez_X} {E : Nat → Nat × (Nat → Int32)} {ml : Nat → Nat} {hn : Nat → Nat → Option (Nat × Nat)} {mi d pc a b k : Nat} {v : Int32} {cs : List ez_C} {ls : List (Option Value)} {h : ez_H} {Q : ez_Q} (hM : ez_n h + 1 ≤ ez_MC ∧ ez_u h + 6 ≤ ez_MS) (H : Q (.inr a) (ez_bump h)) : ez_gw X E ml hn mi d ((pc, .athrow, a, b, k, v) :: cs) 0 ls [] h Q := ⟨hM, H⟩
abbrev zMem (h : ez_H) : Prop := ez_n h + 1 ≤ ez_MC ∧ ez_u h + 6 ≤ ez_MS
/-! PRINTED by wip/p17/con6.py: contracts of the class, fifth part: Unpacker -/
end
section
/-! THE MODEL'S CELLS: the same but for some int fields of cell 71 and the ints of some other cells -/
def zG (PF PA : Nat → Prop) (h h2 : ez_H) : Prop := ez_n h2 = ez_n h ∧ ez_u h2 = ez_u h ∧ ez_t h2 = ez_t h ∧ ez_l h2 = ez_l h ∧ ez_R h2 = ez_R h ∧ ez_L h2 = ez_L h ∧ (∀ k, ¬ PF k → ez_I h2 71 k = ez_I h 71 k) ∧ ∀ p, p ≠ 71 → ¬ PA p → ez_I h2 p = ez_I h p
theorem zG_refl (PF PA : Nat → Prop) (h : ez_H) : zG PF PA h h := ⟨rfl, rfl, rfl, rfl, rfl, rfl, fun _ _ => rfl, fun _ _ _ => rfl⟩
theorem zG_tr {PF PA : Nat → Prop} {h h1 h2 : ez_H} (A : zG PF PA h h1) (B : zG PF PA h1 h2) : zG PF PA h h2 := ⟨B.1.trans A.1, B.2.1.trans A.2.1, B.2.2.1.trans A.2.2.1, B.2.2.2.1.trans A.2.2.2.1, B.2.2.2.2.1.trans A.2.2.2.2.1, B.2.2.2.2.2.1.trans A.2.2.2.2.2.1, fun k hk => (B.2.2.2.2.2.2.1 k hk).trans (A.2.2.2.2.2.2.1 k hk), fun p h7 hp => (B.2.2.2.2.2.2.2 p h7 hp).trans (A.2.2.2.2.2.2.2 p h7 hp)⟩
theorem zG_mono {PF PA PF' PA' : Nat → Prop} {h h1 : ez_H} (A : zG PF PA h h1) (hf : ∀ k, PF k → PF' k) (ha : ∀ p, PA p → PA' p) : zG PF' PA' h h1 := ⟨A.1, A.2.1, A.2.2.1, A.2.2.2.1, A.2.2.2.2.1, A.2.2.2.2.2.1, fun k q => A.2.2.2.2.2.2.1 k (fun c => q (hf k c)), fun p h7 q => A.2.2.2.2.2.2.2 p h7 (fun c => q (ha p c))⟩
theorem zG_sh {PF PA : Nat → Prop} {h h1 : ez_H} (A : zG PF PA h h1) (S : zSh h) : zSh h1 := fun p hp => by
  rw [A.2.2.1, A.2.2.2.1, A.2.2.2.2.1]
  exact S p hp
theorem zG_f {PF PA : Nat → Prop} {h h1 : ez_H} (A : zG PF PA h h1) {k : Nat} (hk : ¬ PF k) : ez_I h1 71 k = ez_I h 71 k := A.2.2.2.2.2.2.1 k hk
theorem zG_fn {PF PA : Nat → Prop} {h h1 : ez_H} (A : zG PF PA h h1) (p : Nat) (h7 : p ≠ 71) (hp : ¬ PA p) : ez_I h1 p = ez_I h p := A.2.2.2.2.2.2.2 p h7 hp
theorem zG_a {PF PA : Nat → Prop} {h h1 : ez_H} (A : zG PF PA h h1) {p k : Nat} (h7 : p ≠ 71) (hp : ¬ PA p) : ez_I h1 p k = ez_I h p k := by rw [zG_fn A p h7 hp]
theorem zG_setF {PF PA : Nat → Prop} {h h1 h2 : ez_H} {k : Nat} {v : Int32} (A : zG PF PA h h1) (e : h2 = ez_setI h1 71 k v) (hk : PF k) : zG PF PA h h2 := by
  subst e
  refine zG_tr A ⟨rfl, rfl, rfl, rfl, rfl, rfl, fun j hj => ?_, fun q h7 hq => ?_⟩
  · exact ez_I_set_ne (fun c => hj (c.2 ▸ hk))
  · funext j
    exact ez_I_set_ne (fun c => h7 c.1)
theorem zG_setA {PF PA : Nat → Prop} {h h1 h2 : ez_H} {p k : Nat} {v : Int32} (A : zG PF PA h h1) (e : h2 = ez_setI h1 p k v) (h7 : p ≠ 71) (hp : PA p) : zG PF PA h h2 := by
  subst e
  refine zG_tr A ⟨rfl, rfl, rfl, rfl, rfl, rfl, fun j hj => ?_, fun q _ hq => ?_⟩
  · exact ez_I_set_ne (fun c => h7 c.1.symm)
  · funext j
    exact ez_I_set_ne (fun c => hq (c.1 ▸ hp))
theorem zI_fn {h h2 : ez_H} {p k : Nat} {v : Int32} (e : h2 = ez_setI h p k v) (q : Nat) (hn : q ≠ p) : ez_I h2 q = ez_I h q := by
  subst e
  funext j
  exact ez_I_set_ne (fun c => hn c.1)
section ZV
variable {X : ez_X} {E : Nat → Nat × (Nat → Int32)} {ml : Nat → Nat} {hn : Nat → Nat → Option (Nat × Nat)} {mi d pc a b k : Nat} {i : ClassFile.Instr} {v : Int32} {cs : List ez_C} {ls : List (Option Value)} {st r : List Value} {h : ez_H} {Q : ez_Q} {x y z : Int32} {p q n : Nat}
theorem z_iaV (ht : ez_t h p = 1000) (hl : ez_l h p = n) (hx : 0 ≤ x.toInt ∧ x.toInt < n) (hv : ez_I h p x.toInt.toNat = y) (H : ez_gw X E ml hn mi d cs 0 ls (.int y :: r) h Q) : ez_gw X E ml hn mi d ((pc, .iaload, a, b, k, v) :: cs) 0 ls (.int x :: .ref p :: r) h Q := z_ia ht hl hx (by rw [hv]; exact H)
theorem z_baV (ht : ez_t h p = 1003) (hl : ez_l h p = n) (hx : 0 ≤ x.toInt ∧ x.toInt < n) (hv : ez_I h p x.toInt.toNat = y) (H : ez_gw X E ml hn mi d cs 0 ls (.int y :: r) h Q) : ez_gw X E ml hn mi d ((pc, .baload, a, b, k, v) :: cs) 0 ls (.int x :: .ref p :: r) h Q := z_ba ht hl hx (by rw [hv]; exact H)
theorem z_toInt_div {x y : Int32} {c : Int} (hy : y.toInt = c) (hc : 0 < c) (hx : 0 ≤ x.toInt) : (x / y).toInt = x.toInt / c := by
  rw [z_div hy hc, Int.tdiv_eq_ediv_of_nonneg hx]
theorem z_toInt_rem {x y : Int32} {c : Int} (hy : y.toInt = c) (hc : 0 < c) (hx : 0 ≤ x.toInt) : (x - x / y * y).toInt = x.toInt % c := by
  have hd := z_toInt_div hy hc hx
  have hr := z_rng x
  have h1 : 0 ≤ x.toInt / c * c := Int.mul_nonneg (Int.ediv_nonneg hx (by omega)) (by omega)
  have h2 : x.toInt / c * c ≤ x.toInt := Int.ediv_mul_le _ (by omega)
  have hm : (x / y * y).toInt = x.toInt / c * c := by
    rw [z_toInt_mul (by rw [hd, hy]; omega), hd, hy]
  rw [z_toInt_sub (by rw [hm]; omega), hm]
  have := Int.emod_def x.toInt c
  rw [Int.mul_comm] at this
  omega
theorem z_dvP {c : Int} (hy : y.toInt = c) (hc : 0 < c) (hx : 0 ≤ x.toInt) (H : ∀ z : Int32, z.toInt = x.toInt / c → ez_gw X E ml hn mi d cs 0 ls (.int z :: r) h Q) : ez_gw X E ml hn mi d ((pc, .idiv, a, b, k, v) :: cs) 0 ls (.int y :: .int x :: r) h Q := z_dv (by omega) (fun z e => H z (by rw [e]; exact z_toInt_div hy hc hx))
theorem z_rmP {c : Int} (hy : y.toInt = c) (hc : 0 < c) (hx : 0 ≤ x.toInt) (H : ∀ z : Int32, z.toInt = x.toInt % c → ez_gw X E ml hn mi d cs 0 ls (.int z :: r) h Q) : ez_gw X E ml hn mi d ((pc, .irem, a, b, k, v) :: cs) 0 ls (.int y :: .int x :: r) h Q := z_rm (by omega) (fun z e => H z (by rw [e]; exact z_toInt_rem hy hc hx))
theorem z_rl {x : Int64} (H : Q (.inl (some (.long x))) h) : ez_gw X E ml hn mi d ((pc, .lreturn, a, b, k, v) :: cs) 0 ls [.long x] h Q := gw_rt rfl rfl rfl rfl rfl rfl trivial H
/-- longs by toInt -/
theorem z_i2l (H : ∀ z : Int64, z.toInt = x.toInt → ez_gw X E ml hn mi d cs 0 ls (.long z :: r) h Q) : ez_gw X E ml hn mi d ((pc, .i2l, a, b, k, v) :: cs) 0 ls (.int x :: r) h Q := gw_op rfl (H _ (Int32.toInt_toInt64 x))
theorem z_lC {m : Int} (hi : ez_op i v st = some (.long v.toInt64 :: st)) (hm : v.toInt = m) (H : ∀ z : Int64, z.toInt = m → ez_gw X E ml hn mi d cs 0 ls (.long z :: st) h Q) : ez_gw X E ml hn mi d ((pc, i, a, b, k, v) :: cs) 0 ls st h Q := gw_op hi (H _ (by rw [Int32.toInt_toInt64]; exact hm))
theorem z_lbmod {z : Int} (h : -9223372036854775808 ≤ z ∧ z ≤ 9223372036854775807) : z.bmod 18446744073709551616 = z := by
  rw [Int.bmod_eq_of_le] <;> omega
theorem z_ladd {x y : Int64} (hr : -9223372036854775808 ≤ x.toInt + y.toInt ∧ x.toInt + y.toInt ≤ 9223372036854775807) (H : ∀ z : Int64, z.toInt = x.toInt + y.toInt → ez_gw X E ml hn mi d cs 0 ls (.long z :: r) h Q) : ez_gw X E ml hn mi d ((pc, .ladd, a, b, k, v) :: cs) 0 ls (.long y :: .long x :: r) h Q := gw_op rfl (H _ (by rw [Int64.toInt_add]; exact z_lbmod hr))
theorem z_lmul {x y : Int64} {B : Int} (hx : 0 ≤ x.toInt ∧ x.toInt ≤ 1000000) (hy : 0 ≤ y.toInt ∧ y.toInt ≤ 1000000) (hB : ∀ p : Int, p = x.toInt * y.toInt → 0 ≤ p → p ≤ B → ∀ z : Int64, z.toInt = p → ez_gw X E ml hn mi d cs 0 ls (.long z :: r) h Q) (hb : ∀ p : Int, p = x.toInt * y.toInt → p ≤ B) : ez_gw X E ml hn mi d ((pc, .lmul, a, b, k, v) :: cs) 0 ls (.long y :: .long x :: r) h Q := gw_op rfl (hB _ rfl (Int.mul_nonneg hx.1 hy.1) (hb _ rfl) _ (by
  rw [Int64.toInt_mul]
  refine z_lbmod ⟨?_, ?_⟩
  · have := Int.mul_nonneg hx.1 hy.1
    omega
  · have : x.toInt * y.toInt ≤ 1000000 * 1000000 := Int.mul_le_mul hx.2 hy.2 hy.1 (by decide)
    omega))
theorem z_lcmp {x y : Int64} (H : ∀ z : Int32, (z.toInt = -1 ∧ x.toInt < y.toInt ∨ z.toInt = 0 ∧ x.toInt = y.toInt ∨ z.toInt = 1 ∧ y.toInt < x.toInt) → ez_gw X E ml hn mi d cs 0 ls (.int z :: r) h Q) : ez_gw X E ml hn mi d ((pc, .lcmp, a, b, k, v) :: cs) 0 ls (.long y :: .long x :: r) h Q := gw_op rfl (H _ (by
  unfold lg_cmp
  have l := @Int64.lt_iff_toInt_lt x y
  have l2 := @Int64.lt_iff_toInt_lt y x
  have q := @Int64.toInt_inj x y
  by_cases c2 : x = y
  · subst c2
    have c' : ¬ x > x := fun z => by have := l2.mp z; omega
    refine .inr (.inl ⟨?_, rfl⟩)
    simp only [c', ↓reduceIte]
    rfl
  · have n2 : ¬ x.toInt = y.toInt := fun z => c2 (q.mp z)
    by_cases c : y < x
    · have c' : x > y := c
      simp only [c2, c', ↓reduceIte]
      exact .inr (.inr ⟨rfl, l2.mp c⟩)
    · have c' : ¬ x > y := c
      have n1 : ¬ y.toInt < x.toInt := fun z => c (l2.mpr z)
      simp only [c2, c', ↓reduceIte]
      exact .inl ⟨rfl, by omega⟩))
end ZV
/-- every int of an array's first n lies in lo .. hi -/
def aR (f : Nat → Int32) (n : Nat) (lo hi : Int) : Prop := ∀ k, k < n → lo ≤ (f k).toInt ∧ (f k).toInt ≤ hi
theorem aR_0 (f : Nat → Int32) (lo hi : Int) : aR f 0 lo hi := fun k hk => by omega
theorem aR_le {f : Nat → Int32} {n m : Nat} {lo hi lo' hi' : Int} (A : aR f n lo hi) (h : m ≤ n ∧ lo' ≤ lo ∧ hi ≤ hi') : aR f m lo' hi' := fun k hk => by
  have := A k (by omega)
  omega
theorem aR_up {h h2 : ez_H} {c k n : Nat} {v : Int32} {lo hi : Int} (A : aR (ez_I h c) n lo hi) (e : h2 = ez_setI h c k v) (hv : lo ≤ v.toInt ∧ v.toInt ≤ hi) : aR (ez_I h2 c) n lo hi := fun j hj => by
  subst e
  by_cases q : j = k
  · subst q; rw [ez_I_set_eq]; exact hv
  · rw [ez_I_set_ne (fun z => q z.2)]; exact A j hj
theorem aR_ex {h h2 : ez_H} {c k n : Nat} {v : Int32} {lo hi : Int} (A : aR (ez_I h c) k lo hi) (e : h2 = ez_setI h c k v) (hv : lo ≤ v.toInt ∧ v.toInt ≤ hi) (hn : n ≤ k + 1) : aR (ez_I h2 c) n lo hi := fun j hj => by
  subst e
  by_cases q : j = k
  · subst q; rw [ez_I_set_eq]; exact hv
  · rw [ez_I_set_ne (fun z => q z.2)]; exact A j (by omega)
/-- sums -/
noncomputable def sm (f : Nat → Int) : Nat → Int
  | 0 => 0
  | n + 1 => sm f n + f n
theorem sm_congr {f g : Nat → Int} {n : Nat} (h : ∀ k, k < n → f k = g k) : sm f n = sm g n := by
  induction n with
  | zero => rfl
  | succ n ih =>
    show sm f n + f n = sm g n + g n
    rw [ih (fun k hk => h k (by omega)), h n (by omega)]
theorem sm_nonneg {f : Nat → Int} {n : Nat} (h : ∀ k, k < n → 0 ≤ f k) : 0 ≤ sm f n := by
  induction n with
  | zero => exact Int.le_refl 0
  | succ n ih =>
    show 0 ≤ sm f n + f n
    have := ih (fun k hk => h k (by omega))
    have := h n (by omega)
    omega
theorem sm_mono {f : Nat → Int} {n m : Nat} (hnm : n ≤ m) (h : ∀ k, k < m → 0 ≤ f k) : sm f n ≤ sm f m := by
  induction m with
  | zero => have : n = 0 := by omega
            subst this; exact Int.le_refl _
  | succ m ih =>
    by_cases e : n = m + 1
    · subst e; exact Int.le_refl _
    · have := ih (by omega) (fun k hk => h k (by omega))
      have := h m (by omega)
      show sm f n ≤ sm f m + f m
      omega
theorem sm_le {f g : Nat → Int} {n : Nat} (h : ∀ k, k < n → f k ≤ g k) : sm f n ≤ sm g n := by
  induction n with
  | zero => exact Int.le_refl 0
  | succ n ih =>
    show sm f n + f n ≤ sm g n + g n
    have := ih (fun k hk => h k (by omega))
    have := h n (by omega)
    omega
theorem sm_const {c : Int} {n : Nat} : sm (fun _ => c) n = c * n := by
  induction n with
  | zero => rw [show ((0 : Nat) : Int) = 0 from rfl, Int.mul_zero]; rfl
  | succ n ih =>
    show sm (fun _ => c) n + c = c * ((n + 1 : Nat) : Int)
    rw [ih, Int.natCast_add, Int.mul_add]
    show _ = _ + c * 1
    rw [Int.mul_one]
def cC (h : ez_H) : Prop := ((ez_I h 92 0).toInt = 3 ∧ (ez_I h 94 0).toInt = 1) ∧ aR (ez_I h 92) 29 3 258 ∧ aR (ez_I h 93) 29 0 5 ∧ aR (ez_I h 94) 30 1 24577 ∧ aR (ez_I h 95) 30 0 13 ∧ aR (ez_I h 96) 19 0 18
theorem gw_unskip {X : ez_X} {E : Nat → Nat × (Nat → Int32)} {ml : Nat → Nat} {hn : Nat → Nat → Option (Nat × Nat)} {mi d t : Nat} {ls : List (Option Value)} {st : List Value} {h : ez_H} {Q : ez_Q} : ∀ cs : List ez_C, ez_gw X E ml hn mi d cs (t + 1) ls st h Q → ez_gw X E ml hn mi d (ev_skip t cs) 0 ls st h Q := by
  intro cs
  induction cs with
  | nil => exact id
  | cons e r ih =>
    intro H
    obtain ⟨pc, i, a, b, k, v⟩ := e
    unfold ev_skip
    by_cases he : pc = t
    · subst he
      simp only [↓reduceIte]
      unfold ez_gw at H ⊢
      simp only [show ez_past 0 pc = false from rfl]
      simp only [ev_past_eq] at H
      exact H
    · simp only [he, ↓reduceIte]
      unfold ez_gw at H
      simp only [ev_past_ne he] at H
      exact ih H
theorem ez_Wp_at {E : Nat → Nat × (Nat → Int32)} {d m pc : Nat} {ls : List (Option Value)} {st : List Value} {h : ez_H} {Q : ez_Q} {cs : List ez_C} (H : pw E d m pc ls st h Q) (e : ev_skip pc (tz_co m) = cs) : ez_gw (ez_Wp E tz_ml tz_hn tz_co) E tz_ml (tz_hn m) m d cs 0 ls st h Q := by
  subst e
  exact gw_unskip _ (ez_Wp_out H)

end
section
/-! unpacking in the model -/
theorem z_pow_le {a b : Nat} (h : a ≤ b) : (2 : Int) ^ a ≤ 2 ^ b := by exact_mod_cast Nat.pow_le_pow_right (n := 2) (by decide) h
/-- how often l stands among the first n -/
noncomputable def cnI (f : Nat → Int32) (l : Int) : Nat → Nat
  | 0 => 0
  | n + 1 => cnI f l n + if (f n).toInt = l then 1 else 0
/-- g counts the lengths of the first n of f -/
def cM (g f : Nat → Int32) (n : Nat) : Prop := (g 0).toInt = 0 ∧ ∀ l : Nat, 1 ≤ l → l < 17 → (g l).toInt = cnI f l n
def cB (c l : Int32) : Prop := 0 ≤ c.toInt ∧ c.toInt < 2 ^ (l.toInt.toNat - 1)
/-! PRINTED by wip/p17/con9.py: contracts of the model, what reads bits -/
end
section
/-! finding the parts in the model -/
/-- the code of a length or a distance: the last base that is not above it -/
noncomputable def lcF (f : Nat → Int32) (n : Int) : Nat → Nat
  | 0 => 0
  | k + 1 => if (f (k + 1)).toInt > n then lcF f n k else k + 1
/-! PRINTED by wip/p17/con11.py: contracts of the model, the parts -/
end
section
/-! lengths in the model: rows of holds, their sums -/
noncomputable def hp (H : Nat → Int32) (a b o : Int) (j : Nat) : Int := if 0 ≤ o then (if (j : Int) = o then 1 else 0) else (H (288 * a.toNat + j)).toInt + (H (288 * b.toNat + j)).toInt
def pN (G G0 H : Nat → Int32) (k : Nat) (a b o : Int) (j : Nat) : Prop := (∀ i, i < 288 * k → G i = G0 i) ∧ ∀ i, i < j → (G (288 * k + i)).toInt = hp H a b o i
theorem pN_0 {G H : Nat → Int32} {k : Nat} {a b o : Int} : pN G G H k a b o 0 := ⟨fun _ _ => rfl, fun i hi => by omega⟩
theorem pN_up {h h2 : ez_H} {G0 H : Nat → Int32} {k j x : Nat} {a b o : Int} {y : Int32} (A : pN (ez_I h 114) G0 H k a b o j) (e : h2 = ez_setI h 114 x y) (hx : x = 288 * k + j) (hy : y.toInt = hp H a b o j) : pN (ez_I h2 114) G0 H k a b o (j + 1) := by
  subst e; subst hx
  refine ⟨fun i hi => ?_, fun i hi => ?_⟩
  · rw [ez_I_set_ne (by omega)]; exact A.1 i hi
  · by_cases q : i = j
    · subst q; rw [ez_I_set_eq]; exact hy
    · rw [ez_I_set_ne (by omega)]; exact A.2 i (by omega)
theorem hp_1 {H : Nat → Int32} {a b o : Int} {j : Nat} {y : Int} (ho : 0 ≤ o) (h : (j : Int) = o ∧ y = 1 ∨ (j : Int) ≠ o ∧ y = 0) : y = hp H a b o j := by
  unfold hp
  simp only [ho, ↓reduceIte]
  rcases h with ⟨h1, h2⟩ | ⟨h1, h2⟩ <;> simp only [h1, h2, ↓reduceIte]
theorem hp_2 {H : Nat → Int32} {a b o : Int} {j ia ib : Nat} {y : Int} {va vb : Int32} (ho : o < 0) (ha : H ia = va) (hb : H ib = vb) (ea : ia = 288 * a.toNat + j) (eb : ib = 288 * b.toNat + j) (h : y = va.toInt + vb.toInt) : y = hp H a b o j := by
  unfold hp
  have : ¬ 0 ≤ o := by omega
  simp only [this, ↓reduceIte]
  subst ea; subst eb
  rw [ha, hb]; exact h
/-- rows of n: no entry below 0, the first k rows' sum at j at most g j -/
noncomputable def hS (H : Nat → Int32) (j k : Nat) : Int := sm (fun i => (H (288 * i + j)).toInt) k
def hQ (H : Nat → Int32) (n k : Nat) (g : Nat → Int) : Prop := ∀ j, j < n → (∀ i, i < k → 0 ≤ (H (288 * i + j)).toInt) ∧ hS H j k ≤ g j
theorem hQ_0 {H : Nat → Int32} {n : Nat} {g : Nat → Int} (h : ∀ j, j < n → 0 ≤ g j) : hQ H n 0 g := fun j hj => ⟨fun i hi => by omega, h j hj⟩
theorem hQ_g {H : Nat → Int32} {n k : Nat} {g g' : Nat → Int} (A : hQ H n k g) (h : ∀ j, j < n → g j ≤ g' j) : hQ H n k g' := fun j hj => ⟨(A j hj).1, Int.le_trans (A j hj).2 (h j hj)⟩
theorem hS_congr {H H' : Nat → Int32} {j k : Nat} (h : ∀ i, i < k → H' (288 * i + j) = H (288 * i + j)) : hS H' j k = hS H j k := sm_congr (fun i hi => by rw [h i hi])
theorem hQ_congr {H H' : Nat → Int32} {n k : Nat} {g : Nat → Int} (A : hQ H n k g) (h : ∀ i j, i < k → j < n → H' (288 * i + j) = H (288 * i + j)) : hQ H' n k g := fun j hj => ⟨fun i hi => by rw [h i j hi hj]; exact (A j hj).1 i hi, by rw [hS_congr (fun i hi => h i j hi hj)]; exact (A j hj).2⟩
theorem hQ_row {H : Nat → Int32} {n k : Nat} {g v : Nat → Int} (A : hQ H n k g) (hv : ∀ j, j < n → (H (288 * k + j)).toInt = v j ∧ 0 ≤ v j) : hQ H n (k + 1) (fun j => g j + v j) := fun j hj => by
  obtain ⟨a, b⟩ := A j hj
  obtain ⟨c, e⟩ := hv j hj
  refine ⟨fun i hi => ?_, ?_⟩
  · by_cases q : i = k
    · subst q; rw [c]; exact e
    · exact a i (by omega)
  · show hS H j k + (H (288 * k + j)).toInt ≤ g j + v j
    rw [c]; omega
theorem hQ_ent {H : Nat → Int32} {n k : Nat} {c : Int} (A : hQ H n k (fun _ => c)) {i j : Nat} (hi : i < k) (hj : j < n) : 0 ≤ (H (288 * i + j)).toInt ∧ (H (288 * i + j)).toInt ≤ c := by
  obtain ⟨a, b⟩ := A j hj
  refine ⟨a i hi, Int.le_trans ?_ b⟩
  have h1 : hS H j (i + 1) ≤ hS H j k := sm_mono (by omega) (fun q hq => a q hq)
  have h2 : 0 ≤ hS H j i := sm_nonneg (fun q hq => a q (by omega))
  have h3 : hS H j (i + 1) = hS H j i + (H (288 * i + j)).toInt := rfl
  omega
/-- a write behind the first k rows -/
theorem hQ_w {h h2 : ez_H} {c x n k : Nat} {v : Int32} {g : Nat → Int} (A : hQ (ez_I h c) n k g) (e : h2 = ez_setI h c x v) (hx : 288 * k ≤ x) (hn : n ≤ 288) : hQ (ez_I h2 c) n k g := hQ_congr A (fun i j hi hj => zI_ne e (by
  have : 288 * (i + 1) ≤ 288 * k := Nat.mul_le_mul_left 288 hi
  omega))
/-- the part of a row that stands -/
def rwI (H : Nat → Int32) (k : Nat) (v : Nat → Int) (j : Nat) : Prop := ∀ i, i < j → (H (288 * k + i)).toInt = v i
theorem rwI_0 {H : Nat → Int32} {k j : Nat} {v : Nat → Int} (h : j = 0) : rwI H k v j := fun i hi => by omega
theorem rwI_up {h h2 : ez_H} {c k j x : Nat} {y : Int32} {v : Nat → Int} (A : rwI (ez_I h c) k v j) (e : h2 = ez_setI h c x y) (hx : x = 288 * k + j) (hy : y.toInt = v j) : rwI (ez_I h2 c) k v (j + 1) := fun i hi => by
  subst e; subst hx
  by_cases q : i = j
  · subst q; rw [ez_I_set_eq]; exact hy
  · rw [ez_I_set_ne (by omega)]; exact A i (by omega)
noncomputable def unit1 (k j : Nat) : Int := if j = k then 1 else 0
noncomputable def lt1 (k : Int) (j : Nat) : Int := if (j : Int) < k then 1 else 0
theorem lt1_up (k j : Nat) : lt1 k j + unit1 k j = lt1 ((k : Int) + 1) j := by
  unfold lt1 unit1
  split <;> split <;> split <;> omega
theorem unit1_nn (k j : Nat) : 0 ≤ unit1 k j := by unfold unit1; split <;> omega
theorem unit1_of {k j : Nat} {y : Int} (h : j = k ∧ y = 1 ∨ j ≠ k ∧ y = 0) : y = unit1 k j := by
  unfold unit1
  rcases h with ⟨h1, h2⟩ | ⟨h1, h2⟩ <;> simp only [h1, h2, ↓reduceIte]
theorem hQ_init {H : Nat → Int32} {n k : Nat} {m : Int} (A : hQ H n k (lt1 k)) (B : rwI H k (unit1 k) n) (hm : m = (k : Int) + 1) : hQ H n (k + 1) (lt1 m) := hQ_g (hQ_row A (fun j hj => ⟨B j hj, unit1_nn k j⟩)) (fun j _ => by rw [hm, ← lt1_up]; exact Int.le_refl _)
theorem hQ_one {H : Nat → Int32} {n k : Nat} {m : Int} (A : hQ H n k (lt1 m)) : hQ H n k (fun _ => 1) := hQ_g A (fun j _ => by unfold lt1; split <;> omega)
/-- a turn: packages out of the list before -/
def tQ (G H : Nat → Int32) (n k : Nat) (s p : Int) : Prop := hQ G n k (fun j => lt1 s j + hS H j p.toNat)
theorem tQ_0 {G H : Nat → Int32} {n k : Nat} {s p : Int} (hk : k = 0) (hs : s = 0) (hp' : p = 0) : tQ G H n k s p := by
  subst hk; subst hs; subst hp'
  exact hQ_0 (fun j _ => by unfold lt1; show 0 ≤ (if (j : Int) < 0 then (1 : Int) else 0) + 0; split <;> omega)
theorem tQ_s {G G' H : Nat → Int32} {n k : Nat} {s s' p a b o : Int} (A : tQ G H n k s p) (B : pN G' G H k a b o n) (hn : n ≤ 288) (hs : 0 ≤ s) (ho : o = s) (h' : s' = s + 1) : tQ G' H n (k + 1) s' p := by
  subst ho; subst h'
  have A' : hQ G' n k (fun j => lt1 o j + hS H j p.toNat) := hQ_congr A (fun i j hi hj => B.1 _ (by
    have : 288 * (i + 1) ≤ 288 * k := Nat.mul_le_mul_left 288 hi
    omega))
  refine hQ_g (hQ_row (v := unit1 o.toNat) A' (fun j hj => ⟨?_, unit1_nn _ j⟩)) (fun j _ => ?_)
  · rw [B.2 j hj]
    unfold hp unit1
    simp only [hs, ↓reduceIte]
    split <;> split <;> omega
  · have := lt1_up o.toNat j
    rw [show ((o.toNat : Nat) : Int) = o by omega] at this
    omega
theorem tQ_p {G G' H : Nat → Int32} {n k : Nat} {s p p' a b o c : Int} {r : Nat} (A : tQ G H n k s p) (B : pN G' G H k a b o n) (R : hQ H n r (fun _ => c)) (hn : n ≤ 288) (hp0 : 0 ≤ p) (hr : p + 1 < r) (ho : o < 0) (ha : a = p) (hb : b = p + 1) (h' : p' = p + 2) : tQ G' H n (k + 1) s p' := by
  subst ha; subst hb; subst h'
  have A' : hQ G' n k (fun j => lt1 s j + hS H j a.toNat) := hQ_congr A (fun i j hi hj => B.1 _ (by
    have : 288 * (i + 1) ≤ 288 * k := Nat.mul_le_mul_left 288 hi
    omega))
  refine hQ_g (hQ_row (v := fun j => (H (288 * a.toNat + j)).toInt + (H (288 * (a + 1).toNat + j)).toInt) A' (fun j hj => ⟨?_, ?_⟩)) (fun j hj => ?_)
  · rw [B.2 j hj]
    unfold hp
    have : ¬ 0 ≤ o := by omega
    simp only [this, ↓reduceIte]
  · have h1 := (R j hj).1 a.toNat (by omega)
    have h2 := (R j hj).1 (a + 1).toNat (by omega)
    show 0 ≤ (H (288 * a.toNat + j)).toInt + (H (288 * (a + 1).toNat + j)).toInt
    omega
  · show lt1 s j + hS H j a.toNat + ((H (288 * a.toNat + j)).toInt + (H (288 * (a + 1).toNat + j)).toInt) ≤ lt1 s j + hS H j (a + 2).toNat
    rw [show (a + 2).toNat = a.toNat + 1 + 1 by omega, show (a + 1).toNat = a.toNat + 1 by omega]
    have e1 : hS H j (a.toNat + 1 + 1) = hS H j a.toNat + (H (288 * a.toNat + j)).toInt + (H (288 * (a.toNat + 1) + j)).toInt := rfl
    rw [e1]
    omega
theorem tQ_end {G H : Nat → Int32} {n k r : Nat} {s p c c' : Int} (A : tQ G H n k s p) (R : hQ H n r (fun _ => c)) (hp0 : p.toNat ≤ r) (hc : c' = c + 1) : hQ G n k (fun _ => c') := hQ_g A (fun j hj => by
  have h1 := (R j hj).2
  have h2 : hS H j p.toNat ≤ hS H j r := sm_mono hp0 (fun q hq => (R j hj).1 q hq)
  have h1' : hS H j r ≤ c := h1
  unfold lt1
  split <;> omega)
/-- rows copied -/
def cpI (H G : Nat → Int32) (n i : Nat) : Prop := ∀ a j, a < i → j < n → H (288 * a + j) = G (288 * a + j)
def cpR (H G : Nat → Int32) (i j : Nat) : Prop := ∀ b, b < j → H (288 * i + b) = G (288 * i + b)
theorem cpI_0 {H G : Nat → Int32} {n i : Nat} (h : i = 0) : cpI H G n i := fun a j ha => by omega
theorem cpR_0 {H G : Nat → Int32} {i j : Nat} (h : j = 0) : cpR H G i j := fun a ha => by omega
theorem cpI_s {H G : Nat → Int32} {n i m : Nat} (A : cpI H G n i) (B : cpR H G i n) (hm : m = i + 1) : cpI H G n m := fun a j ha hj => by
  by_cases q : a = i
  · subst q; exact B j hj
  · exact A a j (by omega) hj
theorem cpI_w {h h2 : ez_H} {n i x : Nat} {y : Int32} (A : cpI (ez_I h 113) (ez_I h 114) n i) (e : h2 = ez_setI h 113 x y) (hx : 288 * i ≤ x) (hn : n ≤ 288) : cpI (ez_I h2 113) (ez_I h2 114) n i := fun a j ha hj => by
  rw [zI_ne e (by have : 288 * (a + 1) ≤ 288 * i := Nat.mul_le_mul_left 288 ha; omega), zI_ne e (by omega)]
  exact A a j ha hj
theorem cpR_w {h h2 : ez_H} {i j x z : Nat} {y : Int32} (A : cpR (ez_I h 113) (ez_I h 114) i j) (e : h2 = ez_setI h 113 x y) (hx : x = 288 * i + j) (ey : ez_I h 114 z = y) (hz : z = 288 * i + j) : cpR (ez_I h2 113) (ez_I h2 114) i (j + 1) := fun b hb => by
  subst hx; subst hz
  rw [zI_ne (q := 114) e (by omega)]
  by_cases q : b = j
  · subst q; rw [zI_eq e]; exact ey.symm
  · rw [zI_ne e (by omega)]; exact A b (by omega)
theorem hQ_cp {H G : Nat → Int32} {n i r : Nat} {g : Nat → Int} (A : hQ G n r g) (B : cpI H G n i) (h : r ≤ i) : hQ H n r g := hQ_congr A (fun a j ha hj => B a j (by omega) hj)
/-- the symbols told apart -/
def syI (f : Nat → Int32) (n : Nat) (s : Int) : Prop := ∀ i, i < n → (0 ≤ (f i).toInt ∧ (f i).toInt < s) ∧ ∀ j, j < n → j ≠ i → (f i).toInt ≠ (f j).toInt
def syH (f : Nat → Int32) (n k : Nat) (s : Int) : Prop := ∀ i, i ≤ n → i ≠ k → (0 ≤ (f i).toInt ∧ (f i).toInt < s) ∧ ∀ j, j ≤ n → j ≠ k → j ≠ i → (f i).toInt ≠ (f j).toInt
theorem syI_0 {f : Nat → Int32} {n : Nat} {s : Int} (h : n = 0) : syI f n s := fun i hi => by omega
theorem syI_le {f : Nat → Int32} {n : Nat} {s s' : Int} (A : syI f n s) (h : s ≤ s') : syI f n s' := fun i hi => ⟨by have := (A i hi).1; omega, (A i hi).2⟩
theorem syH_of {f : Nat → Int32} {n k : Nat} {s : Int} (A : syI f n s) (hk : k = n) : syH f n k s := fun i hi hne => ⟨(A i (by omega)).1, fun j hj hj2 hji => (A i (by omega)).2 j (by omega) hji⟩
theorem syH_mv {h h2 : ez_H} {n k x q : Nat} {s : Int} {y : Int32} (A : syH (ez_I h 110) n k s) (e : h2 = ez_setI h 110 x y) (hx : x = k) (ey : ez_I h 110 q = y) (hq : q + 1 = k) (hk : k ≤ n) : syH (ez_I h2 110) n q s := by
  subst hx
  have f : ∀ i, i ≠ x → ez_I h2 110 i = ez_I h 110 i := fun i hi => zI_ne e (by omega)
  have g : ez_I h2 110 x = ez_I h 110 q := (zI_eq e).trans ey.symm
  intro i hi hne
  by_cases c : i = x
  · subst c
    rw [g]
    refine ⟨(A q (by omega) (by omega)).1, fun j hj hj2 hji => ?_⟩
    rw [f j hji]
    exact (A q (by omega) (by omega)).2 j hj hji hj2
  · rw [f i c]
    refine ⟨(A i hi c).1, fun j hj hj2 hji => ?_⟩
    by_cases c2 : j = x
    · subst c2
      rw [g]
      exact (A i hi c).2 q (by omega) (by omega) (by omega)
    · rw [f j c2]
      exact (A i hi c).2 j hj c2 hji
theorem syH_fin {h h2 : ez_H} {n k x m : Nat} {s s' : Int} {y : Int32} (A : syH (ez_I h 110) n k s) (e : h2 = ez_setI h 110 x y) (hx : x = k) (hy : y.toInt = s) (h0 : 0 ≤ s) (hs : s' = s + 1) (hm : m = n + 1) : syI (ez_I h2 110) m s' := by
  subst hx
  have f : ∀ i, i ≠ x → ez_I h2 110 i = ez_I h 110 i := fun i hi => zI_ne e (by omega)
  have g : ez_I h2 110 x = y := zI_eq e
  intro i hi
  by_cases c : i = x
  · subst c
    rw [g]
    refine ⟨by omega, fun j hj hji => ?_⟩
    rw [f j hji]
    have := (A j (by omega) hji).1
    omega
  · rw [f i c]
    have a := A i (by omega) c
    refine ⟨by have := a.1; omega, fun j hj hji => ?_⟩
    by_cases c2 : j = x
    · subst c2
      rw [g]
      have := a.1
      omega
    · rw [f j c2]
      exact a.2 j (by omega) c2 hji
/-- how many packages there are -/
def eH (n r : Int) (t : Int) : Prop := (2 * n - r) * 2 ^ (t.toNat - 1) ≤ n + 2 ^ (t.toNat - 1) - 1
theorem eH_1 {n r t : Int} (h : r = n) (ht : t = 1) : eH n r t := by
  subst h; subst ht
  unfold eH
  show (2 * r - r) * 1 ≤ r + 1 - 1
  omega
theorem eH_up {n r t r' t' p k : Int} (A : eH n r t) (h1 : 1 ≤ t) (h2 : p ≤ r ∧ r ≤ p + 1) (hk : 2 * k = 2 * n + p) (hr : r' = k) (ht : t' = t + 1) : eH n r' t' := by
  subst hr; subst ht
  unfold eH at A ⊢
  rw [show (t + 1).toNat - 1 = (t.toNat - 1) + 1 by omega, Int.pow_succ]
  have hP : (0 : Int) < 2 ^ (t.toNat - 1) := Int.pow_pos (by decide)
  generalize (2 : Int) ^ (t.toNat - 1) = P at *
  have e1 : (2 * n - r') * (P * 2) = (2 * (2 * n - r')) * P := by
    rw [Int.mul_comm P 2, ← Int.mul_assoc, Int.mul_comm (2 * n - r') 2]
  have e2 : 2 * (2 * n - r') ≤ (2 * n - r) + 1 := by omega
  have e3 : (2 * (2 * n - r')) * P ≤ ((2 * n - r) + 1) * P := Int.mul_le_mul_of_nonneg_right e2 (by omega)
  rw [Int.add_mul, Int.one_mul] at e3
  omega
theorem eH_end {n r t li al : Int} (A : eH n r t) (ht : t = li) (h1 : 1 ≤ li) (hn : n ≤ al) (hal : al ≤ 2 ^ li.toNat) : 2 * n - 2 ≤ r := by
  subst ht
  unfold eH at A
  rw [show t.toNat = (t.toNat - 1) + 1 by omega, Int.pow_succ] at hal
  have hP : (0 : Int) < 2 ^ (t.toNat - 1) := Int.pow_pos (by decide)
  generalize (2 : Int) ^ (t.toNat - 1) = P at *
  by_cases c : 2 * n - r ≤ 2
  · omega
  · have : 3 * P ≤ (2 * n - r) * P := Int.mul_le_mul_of_nonneg_right (by omega) (by omega)
    omega
/-- the lengths added up -/
def fI (W Y H : Nat → Int32) (al n i j : Nat) : Prop := (∀ q, q < n → (W (Y q).toInt.toNat).toInt = hS H q i + (if q < j then (H (288 * i + q)).toInt else 0)) ∧ ∀ s : Nat, s < al → (∀ q, q < n → (Y q).toInt ≠ s) → (W s).toInt = 0
theorem fI_0 {W Y H : Nat → Int32} {al n i j : Nat} {s : Int} (A : aR W al 0 0) (B : syI Y n s) (hs : s ≤ al) (hi : i = 0) (hj : j = 0) : fI W Y H al n i j := by
  subst hi; subst hj
  refine ⟨fun q hq => ?_, fun q hq _ => ?_⟩
  · have b := (B q hq).1
    have := A (Y q).toInt.toNat (by omega)
    show _ = (0 : Int) + _
    have c : ¬ q < 0 := by omega
    simp only [c, ↓reduceIte]
    omega
  · have := A q hq
    omega
theorem fI_nx {W Y H : Nat → Int32} {al n i i' j j' : Nat} (A : fI W Y H al n i j) (hj : n ≤ j) (hi : i' = i + 1) (h' : j' = 0) : fI W Y H al n i' j' := by
  subst hi; subst h'
  refine ⟨fun q hq => ?_, A.2⟩
  rw [A.1 q hq]
  have c : q < j := by omega
  have c2 : ¬ q < 0 := by omega
  simp only [c, c2, ↓reduceIte]
  show _ = hS H q i + (H (288 * i + q)).toInt + 0
  omega
theorem fI_w {h h2 : ez_H} {w al n i j x z : Nat} {c : Int} {v o y d : Int32} {r : Nat} (A : fI (ez_I h w) (ez_I h 110) (ez_I h 113) al n i j) (e : h2 = ez_setI h w x d) (hw : w ≠ 110 ∧ w ≠ 113) (B : syI (ez_I h 110) n c) (hj : j < n) (ev : ez_I h 110 j = v) (hx : x = v.toInt.toNat) (eo : ez_I h w x = o) (ey : ez_I h 113 z = y) (hz : z = 288 * i + j) (R : hQ (ez_I h 113) n r (fun _ => 15)) (hr : i < r) (hd : d = o + y) : fI (ez_I h2 w) (ez_I h2 110) (ez_I h2 113) al n i (j + 1) := by
  rw [zI_fn e 110 (fun q => hw.1 q.symm), zI_fn e 113 (fun q => hw.2 q.symm)]
  subst hz
  have ho : o.toInt = hS (ez_I h 113) j i := by
    have := A.1 j hj
    have c : ¬ j < j := by omega
    simp only [c, ↓reduceIte] at this
    rw [ev, ← hx, eo] at this
    omega
  have hs1 : hS (ez_I h 113) j (i + 1) ≤ 15 := Int.le_trans (sm_mono (by omega) (fun q hq => (R j hj).1 q hq)) (R j hj).2
  have hs0 : 0 ≤ hS (ez_I h 113) j i := sm_nonneg (fun q hq => (R j hj).1 q (by omega))
  have hy0 := (R j hj).1 i hr
  rw [ey] at hy0
  have hse : hS (ez_I h 113) j (i + 1) = hS (ez_I h 113) j i + y.toInt := by
    show hS (ez_I h 113) j i + (ez_I h 113 (288 * i + j)).toInt = _
    rw [ey]
  have hdt : d.toInt = o.toInt + y.toInt := by
    rw [hd]; exact z_toInt_add (by omega)
  refine ⟨fun q hq => ?_, fun s hs hne => ?_⟩
  · by_cases c : q = j
    · subst c
      rw [ev, ← hx, zI_eq e]
      have c2 : q < q + 1 := by omega
      simp only [c2, ↓reduceIte]
      rw [ey]
      omega
    · have b := (B q hq).2 j hj (fun z => c z.symm)
      rw [ev] at b
      have b1 := (B q hq).1
      have b2 := (B j hj).1
      rw [ev] at b2
      rw [zI_ne e (by omega), A.1 q hq]
      by_cases c2 : q < j
      · have c3 : q < j + 1 := by omega
        simp only [c2, c3, ↓reduceIte]
      · have c3 : ¬ q < j + 1 := by omega
        simp only [c2, c3, ↓reduceIte]
  · have b2 := (B j hj).1
    rw [ev] at b2
    have := hne j hj
    rw [ev] at this
    rw [zI_ne e (by omega)]
    exact A.2 s hs hne
/-- the first row holds something -/
def hE (H : Nat → Int32) (n : Nat) : Prop := ∃ j, j < n ∧ 1 ≤ (H j).toInt
/-! PRINTED by wip/p17/con12.py: contracts of the model, smaller methods of packing -/
end
section
/-! what a block costs in the model -/
noncomputable def wsm (O : Nat → Int32) (c : Nat → Int) (n : Nat) : Int := sm (fun k => (O k).toInt * c k) n
/-- what a part adds -/
noncomputable def sc (M B Y fb fd : Nat → Int32) (c e : Nat → Int) (k : Nat) : Int := if (B k).toInt = 0 then c (Y k).toInt.toNat else c (257 + lcF fb (M k).toInt 28) + e (lcF fd (B k).toInt 29)
def upd1 (O O' : Nat → Int32) (a : Nat) : Prop := (O' a).toInt = (O a).toInt + 1 ∧ ∀ s, s ≠ a → O' s = O s
theorem upd1_of {h h2 : ez_H} {c x : Nat} {o v : Int32} (e : h2 = ez_setI h c x v) (eo : ez_I h c x = o) (hv : v.toInt = o.toInt + 1) : upd1 (ez_I h c) (ez_I h2 c) x := ⟨by rw [zI_eq e, eo]; exact hv, fun s hs => zI_ne e (by omega)⟩
/-- and of the block's end -/
def cE (O P M B Y fb fd : Nat → Int32) (fr k : Nat) : Prop := aR O 288 0 1000 ∧ aR P 30 0 1000 ∧ ∀ c e : Nat → Int, wsm O c 286 + wsm P e 30 = sm (sc M B Y fb fd c e) k - sm (sc M B Y fb fd c e) fr + c 256
/-! PRINTED by wip/p17/con14.py: contracts of the model, costs, parts written, the row told -/
end
section
/-! what holds behind the constructors -/
noncomputable def sh1 (S : ev_S) (p : Nat) : Bool := match ev_gc S.2.2 p with
  | .mul (.add (.num a) (.num b)) (.add _ (.add _ ar)) => and (Nat.beq a (ly_T p)) (and (Nat.beq b (ly_N p)) (or (Nat.ble 1000 a) ((List.range 128).all (fun k => Nat.beq (ev_g ar k) (ly_R p k)))))
  | _ => false
theorem sh1_ok {S : ev_S} {h : ez_H} {p : Nat} (H : sh1 S p = true) (hr : ev_rel S h) (hp : p < 128) : ez_t h p = ly_T p ∧ ez_l h p = ly_N p ∧ (ly_T p < 1000 → ∀ k, k < 128 → ez_R h p k = ly_R p k) := by
  unfold sh1 at H
  split at H
  · rename_i a b ai al ar e
    obtain ⟨h1, h2⟩ := ev_and H
    obtain ⟨h2, h3⟩ := ev_and h2
    have hc := hr.2.2 p hp
    rw [e] at hc
    have e1 := Nat.eq_of_beq_eq_true h1
    have e2 := Nat.eq_of_beq_eq_true h2
    refine ⟨by rw [← e1]; exact hc.1, by rw [← e2]; exact hc.2.1, fun ht k hk => ?_⟩
    rw [← e1] at ht
    have hsz : ev_sz a b = 128 := by
      unfold ev_sz
      rw [show Nat.blt a 1000 = true from Nat.blt_eq.mpr ht]
      rfl
    have hb : Nat.ble 1000 a = false := by
      cases q : Nat.ble 1000 a with
      | false => rfl
      | true => have := Nat.le_of_ble_eq_true q; omega
    rw [hb] at h3
    have h3 : ((List.range 128).all (fun k => Nat.beq (ev_g ar k) (ly_R p k))) = true := h3
    have := List.all_eq_true.mp h3 k (List.mem_range.mpr hk)
    rw [(hc.2.2 k (by rw [hsz]; exact hk)).2.2]
    exact Nat.eq_of_beq_eq_true this
  · cases H
theorem sh_all : ((List.range 126).all (fun i => sh1 gS3 (i + 1))) = true := by decide +kernel
theorem g3_sh {h : ez_H} (hr : ev_rel gS3 h) : zSh h := fun p hp => by
  have := List.all_eq_true.mp sh_all (p - 1) (List.mem_range.mpr (by omega))
  have e : p - 1 + 1 = p := by omega
  rw [e] at this
  exact sh1_ok this hr (by omega)
noncomputable def ar1 (S : ev_S) (p n lo hi : Nat) : Bool := match ev_gc S.2.2 p with
  | .mul (.add (.num a) (.num b)) (.add ai (.add _ _)) => and (Nat.ble 1000 a) (and (Nat.ble n b) (and (Nat.blt hi 2147483648) ((List.range n).all (fun k => and (Nat.ble lo (ev_g ai k)) (Nat.ble (ev_g ai k) hi)))))
  | _ => false
theorem ar1_ok {S : ev_S} {h : ez_H} {p n lo hi : Nat} (H : ar1 S p n lo hi = true) (hr : ev_rel S h) (hp : p < 128) : aR (ez_I h p) n lo hi := by
  unfold ar1 at H
  split at H
  · rename_i a b ai al ar e
    obtain ⟨h1, h2⟩ := ev_and H
    obtain ⟨h2, h3⟩ := ev_and h2
    obtain ⟨h3, h4⟩ := ev_and h3
    have hc := hr.2.2 p hp
    rw [e] at hc
    have h1 := Nat.le_of_ble_eq_true h1
    have h2 := Nat.le_of_ble_eq_true h2
    have h3 := Nat.blt_eq.mp h3
    have hsz : ev_sz a b = b := by
      unfold ev_sz
      have : Nat.blt a 1000 = false := by
        cases q : Nat.blt a 1000 with
        | false => rfl
        | true => have := Nat.blt_eq.mp q; omega
      rw [this]
      rfl
    intro k hk
    have := List.all_eq_true.mp h4 k (List.mem_range.mpr hk)
    obtain ⟨b1, b2⟩ := ev_and this
    have b1 := Nat.le_of_ble_eq_true b1
    have b2 := Nat.le_of_ble_eq_true b2
    have v := (hc.2.2 k (by rw [hsz]; omega)).1 (by omega)
    have := z_of_u (x := ez_I h p k) (by omega)
    omega
  · cases H
noncomputable def it1 (S : ev_S) (p k n : Nat) : Bool := match ev_gc S.2.2 p with
  | .mul (.add (.num a) (.num b)) (.add ai (.add _ _)) => and (Nat.blt k (ev_sz a b)) (and (Nat.beq (ev_g ai k) n) (Nat.blt n 2147483648))
  | _ => false
theorem it1_ok {S : ev_S} {h : ez_H} {p k n : Nat} (H : it1 S p k n = true) (hr : ev_rel S h) (hp : p < 128) : (ez_I h p k).toInt = n := by
  unfold it1 at H
  split at H
  · rename_i e
    obtain ⟨h2, h3⟩ := ev_and H
    obtain ⟨h3, h4⟩ := ev_and h3
    have hc := hr.2.2 p hp
    rw [e] at hc
    have h4 := Nat.blt_eq.mp h4
    have v := (hc.2.2 k (Nat.blt_eq.mp h2)).1
    rw [Nat.eq_of_beq_eq_true h3] at v
    have v := v (by omega)
    have := z_of_u (x := ez_I h p k) (by omega)
    omega
  · cases H
/-! the law's state between calls -/
end
section
/-! PACKAGES, abstractly: lists of weights, which of them are single, and how often a symbol is in the first k -/
def sgl (W Lp : Nat → Int) (n r s p : Nat) : Prop := s < n ∧ (r ≤ p + 1 ∨ W s ≤ Lp p + Lp (p + 1))
noncomputable def xs1 (W Lp : Nat → Int) (n r : Nat) : Nat → Nat
  | 0 => 0
  | k + 1 => @ite Nat (sgl W Lp n r (xs1 W Lp n r k) (2 * (k - xs1 W Lp n r k))) (Classical.propDecidable _) (xs1 W Lp n r k + 1) (xs1 W Lp n r k)
theorem xs1_y {W Lp : Nat → Int} {n r k s p : Nat} (hs : s = xs1 W Lp n r k) (hp : p = 2 * (k - s)) (h : sgl W Lp n r s p) : xs1 W Lp n r (k + 1) = s + 1 := by
  subst hs; subst hp
  exact if_pos h
theorem xs1_n {W Lp : Nat → Int} {n r k s p : Nat} (hs : s = xs1 W Lp n r k) (hp : p = 2 * (k - s)) (h : ¬ sgl W Lp n r s p) : xs1 W Lp n r (k + 1) = s := by
  subst hs; subst hp
  exact if_neg h
theorem xs1_le {W Lp : Nat → Int} {n r : Nat} : ∀ k, xs1 W Lp n r k ≤ k ∧ xs1 W Lp n r k ≤ n
  | 0 => ⟨Nat.le_refl _, Nat.zero_le _⟩
  | k + 1 => by
    have ih := xs1_le (W := W) (Lp := Lp) (n := n) (r := r) k
    by_cases c : sgl W Lp n r (xs1 W Lp n r k) (2 * (k - xs1 W Lp n r k))
    · rw [xs1_y rfl rfl c]
      have := c.1
      omega
    · rw [xs1_n rfl rfl c]
      omega
/-- within the list there is always a pair where no symbol is taken -/
theorem xs1_p {W Lp : Nat → Int} {n r : Nat} : ∀ k, k ≤ n + r / 2 → 2 * (k - xs1 W Lp n r k) ≤ r
  | 0, _ => by show 2 * (0 - 0) ≤ r; omega
  | k + 1, h => by
    have ih := xs1_p (W := W) (Lp := Lp) (n := n) (r := r) k (by omega)
    have l := xs1_le (W := W) (Lp := Lp) (n := n) (r := r) k
    by_cases c : sgl W Lp n r (xs1 W Lp n r k) (2 * (k - xs1 W Lp n r k))
    · rw [xs1_y rfl rfl c]
      omega
    · rw [xs1_n rfl rfl c]
      have : ¬ (r ≤ 2 * (k - xs1 W Lp n r k) + 1) := fun q => by
        by_cases e : xs1 W Lp n r k < n
        · exact c ⟨e, .inl q⟩
        · omega
      omega
noncomputable def nxL (W Lp : Nat → Int) (n r k : Nat) : Int := @ite Int (sgl W Lp n r (xs1 W Lp n r k) (2 * (k - xs1 W Lp n r k))) (Classical.propDecidable _) (W (xs1 W Lp n r k)) (Lp (2 * (k - xs1 W Lp n r k)) + Lp (2 * (k - xs1 W Lp n r k) + 1))
theorem nxL_y {W Lp : Nat → Int} {n r k s p : Nat} (hs : s = xs1 W Lp n r k) (hp : p = 2 * (k - s)) (h : sgl W Lp n r s p) : nxL W Lp n r k = W s := by
  subst hs; subst hp
  exact if_pos h
theorem nxL_n {W Lp : Nat → Int} {n r k s p : Nat} (hs : s = xs1 W Lp n r k) (hp : p = 2 * (k - s)) (h : ¬ sgl W Lp n r s p) : nxL W Lp n r k = Lp p + Lp (p + 1) := by
  subst hs; subst hp
  exact if_neg h
noncomputable def rz (n : Nat) : Nat → Nat
  | 0 => n
  | t + 1 => n + rz n t / 2
noncomputable def LL (W : Nat → Int) (n : Nat) : Nat → Nat → Int
  | 0 => W
  | t + 1 => nxL W (LL W n t) n (rz n t)
noncomputable def cS (W : Nat → Int) (n : Nat) : Nat → Nat → Nat
  | 0 => fun k => k
  | t + 1 => xs1 W (LL W n t) n (rz n t)
noncomputable def FF (W : Nat → Int) (n : Nat) : Nat → Nat → Nat → Int
  | 0 => fun k j => lt1 k j
  | t + 1 => fun k j => lt1 (cS W n (t + 1) k) j + FF W n t (2 * (k - cS W n (t + 1) k)) j
theorem rz_le (n : Nat) : ∀ t, n ≤ rz n t ∧ (1 ≤ n → rz n t + 1 ≤ 2 * n)
  | 0 => ⟨Nat.le_refl _, fun h => by show n + 1 ≤ _; omega⟩
  | t + 1 => by
    have ih := rz_le n t
    refine ⟨?_, fun h => ?_⟩
    · show n ≤ n + _; omega
    · have := ih.2 h
      show n + rz n t / 2 + 1 ≤ _
      omega
/-- the sums of the lists -/
theorem LL_sm {W Lp : Nat → Int} {n r : Nat} : ∀ k, sm (nxL W Lp n r) k = sm W (xs1 W Lp n r k) + sm Lp (2 * (k - xs1 W Lp n r k))
  | 0 => rfl
  | k + 1 => by
    have ih := LL_sm (W := W) (Lp := Lp) (n := n) (r := r) k
    have l := xs1_le (W := W) (Lp := Lp) (n := n) (r := r) k
    show sm (nxL W Lp n r) k + nxL W Lp n r k = _
    by_cases c : sgl W Lp n r (xs1 W Lp n r k) (2 * (k - xs1 W Lp n r k))
    · rw [xs1_y rfl rfl c, nxL_y rfl rfl c, ih, show k + 1 - (xs1 W Lp n r k + 1) = k - xs1 W Lp n r k by omega]
      show _ = sm W (xs1 W Lp n r k) + W (xs1 W Lp n r k) + _
      omega
    · rw [xs1_n rfl rfl c, nxL_n rfl rfl c, ih, show 2 * (k + 1 - xs1 W Lp n r k) = 2 * (k - xs1 W Lp n r k) + 1 + 1 by omega]
      show _ = _ + (sm Lp (2 * (k - xs1 W Lp n r k)) + Lp (2 * (k - xs1 W Lp n r k)) + Lp (2 * (k - xs1 W Lp n r k) + 1))
      omega
theorem LL_nn {W : Nat → Int} {n : Nat} (hW : ∀ j, j < n → 0 ≤ W j) : ∀ t k, k < rz n t → 0 ≤ LL W n t k
  | 0, k, hk => hW k hk
  | t + 1, k, hk => by
    have ih := LL_nn hW t
    have hk : k < n + rz n t / 2 := hk
    have l := xs1_le (W := W) (Lp := LL W n t) (n := n) (r := rz n t) k
    show 0 ≤ nxL W (LL W n t) n (rz n t) k
    by_cases c : sgl W (LL W n t) n (rz n t) (xs1 W (LL W n t) n (rz n t) k) (2 * (k - xs1 W (LL W n t) n (rz n t) k))
    · rw [nxL_y rfl rfl c]
      exact hW _ c.1
    · rw [nxL_n rfl rfl c]
      have p := xs1_p (W := W) (Lp := LL W n t) (n := n) (r := rz n t) (k + 1) (by omega)
      rw [xs1_n rfl rfl c] at p
      have a := ih (2 * (k - xs1 W (LL W n t) n (rz n t) k)) (by omega)
      have b := ih (2 * (k - xs1 W (LL W n t) n (rz n t) k) + 1) (by omega)
      omega
theorem LL_bd {W : Nat → Int} {n : Nat} {B : Int} (hW : ∀ j, j < n → 0 ≤ W j) (hB : sm W n ≤ B) : ∀ (t : Nat) (k : Nat), k ≤ rz n t → sm (LL W n t) k ≤ B * ((t : Int) + 1)
  | 0, k, hk => by
    have : sm W k ≤ sm W n := sm_mono hk hW
    show sm W k ≤ B * (((0 : Nat) : Int) + 1)
    rw [show (((0 : Nat) : Int) + 1) = 1 from rfl, Int.mul_one]
    omega
  | t + 1, k, hk => by
    have hk : k ≤ n + rz n t / 2 := hk
    have l := xs1_le (W := W) (Lp := LL W n t) (n := n) (r := rz n t) k
    have ih := LL_bd hW hB t (2 * (k - xs1 W (LL W n t) n (rz n t) k)) (xs1_p k hk)
    have a : sm W (xs1 W (LL W n t) n (rz n t) k) ≤ sm W n := sm_mono l.2 hW
    show sm (nxL W (LL W n t) n (rz n t)) k ≤ _
    rw [LL_sm]
    have e : B * (((t + 1 : Nat) : Int) + 1) = B * ((t : Int) + 1) + B := by
      rw [show ((t + 1 : Nat) : Int) + 1 = ((t : Int) + 1) + 1 from by omega, Int.mul_add B ((t : Int) + 1) 1, Int.mul_one]
    omega
/-- a pair's weight is small -/
theorem LL_pr {W : Nat → Int} {n : Nat} {B : Int} (hW : ∀ j, j < n → 0 ≤ W j) (hB : sm W n ≤ B) {t p : Nat} (hp : p + 1 < rz n t) : 0 ≤ LL W n t p + LL W n t (p + 1) ∧ LL W n t p + LL W n t (p + 1) ≤ B * ((t : Int) + 1) := by
  have a := LL_nn hW t p (by omega)
  have b := LL_nn hW t (p + 1) hp
  have c := LL_bd hW hB t (p + 1 + 1) (by omega)
  have d : sm (LL W n t) (p + 1 + 1) = sm (LL W n t) p + LL W n t p + LL W n t (p + 1) := rfl
  have e : 0 ≤ sm (LL W n t) p := sm_nonneg (fun k hk => LL_nn hW t k (by omega))
  omega
theorem FF_s {W : Nat → Int} {n t k s p j : Nat} (hs : s = cS W n (t + 1) k) (hp : p = 2 * (k - s)) : FF W n (t + 1) k j = lt1 s j + FF W n t p j := by
  subst hs; subst hp; rfl
theorem FF_y {W : Nat → Int} {n t k s p j : Nat} (hs : s = cS W n (t + 1) k) (hp : p = 2 * (k - s)) (h : sgl W (LL W n t) n (rz n t) s p) (hk : s ≤ k) : FF W n (t + 1) (k + 1) j = FF W n (t + 1) k j + unit1 s j := by
  have e : s + 1 = cS W n (t + 1) (k + 1) := (xs1_y hs hp h).symm
  rw [FF_s e (by omega : p = 2 * (k + 1 - (s + 1))), FF_s hs hp]
  have := lt1_up s j
  rw [show (((s + 1 : Nat)) : Int) = (s : Int) + 1 by omega]
  omega
theorem FF_n {W : Nat → Int} {n t k s p j : Nat} (hs : s = cS W n (t + 1) k) (hp : p = 2 * (k - s)) (h : ¬ sgl W (LL W n t) n (rz n t) s p) (hk : s ≤ k) : FF W n (t + 1) (k + 1) j = FF W n (t + 1) k j - FF W n t p j + FF W n t (p + 2) j := by
  have e : s = cS W n (t + 1) (k + 1) := (xs1_n hs hp h).symm
  rw [FF_s e (by omega : p + 2 = 2 * (k + 1 - s)), FF_s hs hp]
  omega
/-- how often x is among the first n -/
noncomputable def cnZ (f : Nat → Int) (x : Int) : Nat → Nat
  | 0 => 0
  | n + 1 => cnZ f x n + if f n = x then 1 else 0
theorem cnZ_y {f : Nat → Int} {x : Int} {n : Nat} (h : f n = x) : cnZ f x (n + 1) = cnZ f x n + 1 := by
  show cnZ f x n + (if f n = x then 1 else 0) = _
  simp only [h, ↓reduceIte]
theorem cnZ_n {f : Nat → Int} {x : Int} {n : Nat} (h : ¬ f n = x) : cnZ f x (n + 1) = cnZ f x n := by
  show cnZ f x n + (if f n = x then 1 else 0) = _
  simp only [h, ↓reduceIte]; rfl
theorem cnZ_congr {f g : Nat → Int} {x : Int} : ∀ n, (∀ i, i < n → f i = g i) → cnZ f x n = cnZ g x n
  | 0, _ => rfl
  | n + 1, h => by
    show cnZ f x n + _ = cnZ g x n + _
    rw [cnZ_congr n (fun i hi => h i (by omega)), h n (by omega)]
noncomputable def hol (f : Nat → Int) (k : Nat) (v : Int) : Nat → Int := fun i => if i = k then v else f i
theorem hol_e {f : Nat → Int} {k : Nat} {v : Int} : hol f k v k = v := if_pos rfl
theorem hol_n {f : Nat → Int} {k i : Nat} {v : Int} (h : i ≠ k) : hol f k v i = f i := if_neg h
/-- one place set: the count with what stood there -/
theorem cnZ_set {f : Nat → Int} {k : Nat} {v x : Int} : ∀ n, k < n → cnZ (hol f k v) x n + (if f k = x then 1 else 0) = cnZ f x n + (if v = x then 1 else 0)
  | 0, h => by omega
  | n + 1, h => by
    by_cases c : k = n
    · subst c
      show cnZ (hol f k v) x k + (if hol f k v k = x then 1 else 0) + _ = cnZ f x k + (if f k = x then 1 else 0) + _
      have e1 : cnZ (hol f k v) x k = cnZ f x k := cnZ_congr k (fun i hi => hol_n (by omega))
      rw [hol_e, e1]
      split <;> split <;> omega
    · have ih := cnZ_set (f := f) (k := k) (v := v) (x := x) n (by omega)
      show cnZ (hol f k v) x n + (if hol f k v n = x then 1 else 0) + _ = cnZ f x n + (if f n = x then 1 else 0) + _
      rw [hol_n (fun e => c e.symm)]
      revert ih
      split <;> split <;> split <;> omega
/-- the hole moves from k to q, where what stood there has come to k -/
theorem cnZ_mv {f f' : Nat → Int} {k q n : Nat} {v x : Int} (hk : k < n) (hq : q < n) (hne : q ≠ k) (h1 : f' k = f q) (h2 : ∀ i, i ≠ k → f' i = f i) : cnZ (hol f' q v) x n = cnZ (hol f k v) x n := by
  have a := cnZ_set (f := f') (k := q) (v := v) (x := x) n hq
  have b := cnZ_set (f := f) (k := k) (v := v) (x := x) n hk
  have c := cnZ_set (f := f) (k := k) (v := f q) (x := x) n hk
  have d : cnZ f' x n = cnZ (hol f k (f q)) x n := cnZ_congr n (fun i _ => by
    by_cases e : i = k
    · subst e; rw [hol_e]; exact h1
    · rw [hol_n e]; exact h2 i e)
  rw [h2 q hne] at a
  omega
theorem so_last {f : Nat → Int} {n : Nat} (hf : ∀ i, i + 1 < n → f i ≤ f (i + 1)) : ∀ d i, i + d < n → f i ≤ f (i + d)
  | 0, i, _ => Int.le_refl _
  | d + 1, i, h => Int.le_trans (so_last hf d i (by omega)) (hf (i + d) (by omega))
theorem cnZ_z {f : Nat → Int} {x : Int} : ∀ n, (∀ i, i < n → f i ≠ x) → cnZ f x n = 0
  | 0, _ => rfl
  | n + 1, h => by
    rw [cnZ_n (h n (by omega))]
    exact cnZ_z n (fun i hi => h i (by omega))
/-- two rising rows with the same members are the same -/
theorem so_eq {f g : Nat → Int} : ∀ n, (∀ i, i + 1 < n → f i ≤ f (i + 1)) → (∀ i, i + 1 < n → g i ≤ g (i + 1)) → (∀ x, cnZ f x n = cnZ g x n) → ∀ i, i < n → f i = g i
  | 0, _, _, _, i, hi => by omega
  | n + 1, hf, hg, hc, i, hi => by
    have key : f n = g n := by
      have up : ∀ a b : Nat → Int, (∀ i, i + 1 < n + 1 → b i ≤ b (i + 1)) → (∀ x, cnZ a x (n + 1) = cnZ b x (n + 1)) → ¬ b n < a n := fun a b hb hab q => by
        have h1 : cnZ a (a n) (n + 1) = cnZ a (a n) n + 1 := cnZ_y rfl
        have h2 : cnZ b (a n) (n + 1) = 0 := cnZ_z (n + 1) (fun i hi => by
          have := so_last hb (n - i) i (by omega)
          rw [show i + (n - i) = n by omega] at this
          omega)
        have := hab (a n)
        omega
      have u1 := up f g hg hc
      have u2 := up g f hf (fun x => (hc x).symm)
      omega
    by_cases e : i = n
    · subst e; exact key
    · refine so_eq n (fun i hi => hf i (by omega)) (fun i hi => hg i (by omega)) (fun x => ?_) i (by omega)
      have h := hc x
      by_cases c : f n = x
      · rw [cnZ_y c, cnZ_y (by omega)] at h
        omega
      · rw [cnZ_n c, cnZ_n (by omega)] at h
        exact h
/-- rising but for a hole at k, with v to come, among 0 .. n -/
def soH (f : Nat → Int) (n k : Nat) (v : Int) : Prop := (∀ i, i + 1 < k → f i ≤ f (i + 1)) ∧ (∀ i, k < i → i < n → f i ≤ f (i + 1)) ∧ (0 < k → k < n → f (k - 1) ≤ f (k + 1)) ∧ ∀ i, k < i → i ≤ n → v ≤ f i
def soS (f : Nat → Int) (n : Nat) : Prop := ∀ i, i + 1 < n → f i ≤ f (i + 1)
theorem soH_0 {f : Nat → Int} {n k : Nat} {v : Int} (A : soS f n) (h : k = n) : soH f n k v := ⟨fun i hi => A i (by omega), fun i h1 h2 => by omega, fun _ h2 => by omega, fun i h1 h2 => by omega⟩
theorem soH_mv {f f' : Nat → Int} {n k q : Nat} {v : Int} (A : soH f n k v) (hq : q + 1 = k) (hk : k ≤ n) (h1 : f' k = f q) (h2 : ∀ i, i ≠ k → f' i = f i) (hv : v ≤ f q) : soH f' n q v := by
  refine ⟨fun i hi => ?_, fun i a b => ?_, fun a b => ?_, fun i a b => ?_⟩
  · rw [h2 i (by omega), h2 (i + 1) (by omega)]
    exact A.1 i (by omega)
  · by_cases c : i = k
    · subst c
      rw [h1, h2 (i + 1) (by omega)]
      have := A.2.2.1 (by omega) b
      rw [show i - 1 = q by omega] at this
      exact this
    · rw [h2 i c, h2 (i + 1) (by omega)]
      exact A.2.1 i (by omega) b
  · rw [hq, h1, h2 (q - 1) (by omega)]
    have := A.1 (q - 1) (by omega)
    rw [show q - 1 + 1 = q by omega] at this
    exact this
  · by_cases c : i = k
    · subst c; rw [h1]; exact hv
    · rw [h2 i c]
      exact A.2.2.2 i (by omega) b
theorem soH_end {f f' : Nat → Int} {n k m : Nat} {v : Int} (A : soH f n k v) (hk : k ≤ n) (h1 : f' k = v) (h2 : ∀ i, i ≠ k → f' i = f i) (hv : 0 < k → f (k - 1) ≤ v) (hm : m = n + 1) : soS f' m := fun i hi => by
  subst hm
  by_cases c : i = k
  · subst c
    rw [h1, h2 (i + 1) (by omega)]
    exact A.2.2.2 (i + 1) (by omega) (by omega)
  · by_cases d : i + 1 = k
    · subst d
      rw [h1, h2 i c]
      have := hv (by omega)
      rw [show i + 1 - 1 = i by omega] at this
      exact this
    · rw [h2 i c, h2 (i + 1) d]
      by_cases e : i < k
      · exact A.1 i (by omega)
      · exact A.2.1 i (by omega) (by omega)
/-! what the lengths are, of weights U of al symbols, within li -/
noncomputable def kyU (U : Nat → Int32) (s : Nat) : Int := (U s).toInt * 512 + s
noncomputable def cnU (U : Nat → Int32) (x : Int) : Nat → Nat
  | 0 => 0
  | s + 1 => cnU U x s + if 0 < (U s).toInt ∧ kyU U s = x then 1 else 0
noncomputable def poC (U : Nat → Int32) : Nat → Nat
  | 0 => 0
  | s + 1 => poC U s + if 0 < (U s).toInt then 1 else 0
noncomputable def cut1 (n : Nat) (W : Nat → Int) : Nat → Int := fun i => if i < n then W i else 0
theorem cut1_e {n i : Nat} {W : Nat → Int} (h : i < n) : cut1 n W i = W i := if_pos h
noncomputable def lnO (kf : Nat → Int) (n li j : Nat) : Int := if n = 1 then 1 else FF (cut1 n (fun i => kf i / 512)) n (li - 1) (2 * n - 2) j
def lnP (U R : Nat → Int32) (al li : Nat) : Prop := ∃ (n : Nat) (kf : Nat → Int), n = poC U al ∧ soS kf n ∧ (∀ x, cnZ kf x n = cnU U x al) ∧ (∀ j, j < n → (R (kf j % 512).toNat).toInt = lnO kf n li j) ∧ ∀ s : Nat, s < al → (∀ j, j < n → kf j % 512 ≠ s) → (R s).toInt = 0
theorem lnO_congr {kf kf' : Nat → Int} {n li j : Nat} (h : ∀ i, i < n → kf i = kf' i) : lnO kf n li j = lnO kf' n li j := by
  have e : cut1 n (fun i => kf i / 512) = cut1 n (fun i => kf' i / 512) := by
    funext i
    unfold cut1
    by_cases c : i < n
    · simp only [c, ↓reduceIte]; rw [h i c]
    · simp only [c, ↓reduceIte]
  unfold lnO
  rw [e]
/-- they are told by the weights alone -/
theorem lnP_eq {U R R' : Nat → Int32} {al li : Nat} (hal : al ≤ 512) (A : lnP U R al li) (B : lnP U R' al li) : ∀ s, s < al → (R s).toInt = (R' s).toInt := by
  obtain ⟨n, kf, a1, a2, a3, a4, a5⟩ := A
  obtain ⟨n', kf', b1, b2, b3, b4, b5⟩ := B
  have en : n' = n := by rw [a1, b1]
  subst en
  have ek := so_eq n' a2 b2 (fun x => by rw [a3, b3])
  intro s hs
  by_cases c : ∃ j, j < n' ∧ kf j % 512 = s
  · obtain ⟨j, hj, e⟩ := c
    have h1 := a4 j hj
    have h2 := b4 j hj
    rw [← ek j hj, ← lnO_congr ek] at h2
    rw [e] at h1 h2
    rw [show ((s : Nat) : Int).toNat = s by omega] at h1 h2
    omega
  · rw [a5 s hs (fun j hj e => c ⟨j, hj, e⟩), b5 s hs (fun j hj e => c ⟨j, hj, by rw [ek j hj]; exact e⟩)]
end
