/-! RULES for walks of the pure machine whose ints are told by toInt, as omega likes them -/
theorem z_rng (x : Int32) : -2147483648 ≤ x.toInt ∧ x.toInt ≤ 2147483647 := by
  have := ev_e_toInt x
  have h : ev_e (ev_u x) ≤ 4294967295 := by
    show (ev_u x + 2147483648) % 4294967296 ≤ 4294967295
    omega
  omega
theorem z_inj {x y : Int32} (h : x.toInt = y.toInt) : x = y := Int32.toInt_inj.mp h
theorem z_bmod {z : Int} (h : -2147483648 ≤ z ∧ z ≤ 2147483647) : z.bmod 4294967296 = z := by
  rw [Int.bmod_eq_of_le] <;> omega
theorem z_toInt_add {x y : Int32} (h : -2147483648 ≤ x.toInt + y.toInt ∧ x.toInt + y.toInt ≤ 2147483647) : (x + y).toInt = x.toInt + y.toInt := by
  rw [Int32.toInt_add]; exact z_bmod h
theorem z_toInt_sub {x y : Int32} (h : -2147483648 ≤ x.toInt - y.toInt ∧ x.toInt - y.toInt ≤ 2147483647) : (x - y).toInt = x.toInt - y.toInt := by
  rw [Int32.toInt_sub]; exact z_bmod h
theorem z_toInt_mul {x y : Int32} (h : -2147483648 ≤ x.toInt * y.toInt ∧ x.toInt * y.toInt ≤ 2147483647) : (x * y).toInt = x.toInt * y.toInt := by
  rw [Int32.toInt_mul]; exact z_bmod h
theorem z_u {x : Int32} (h : 0 ≤ x.toInt) : (ev_u x : Int) = x.toInt := by
  have h1 := ev_e_toInt x
  have h2 : ev_e (ev_u x) = (ev_u x + 2147483648) % 4294967296 := rfl
  have h3 := ev_u_lt x
  omega
theorem z_u' {x : Int32} (h : x.toInt < 0) : (ev_u x : Int) = x.toInt + 4294967296 := by
  have h1 := ev_e_toInt x
  have h2 : ev_e (ev_u x) = (ev_u x + 2147483648) % 4294967296 := rfl
  have h3 := ev_u_lt x
  omega
theorem z_of_u {x : Int32} (h : ev_u x < 2147483648) : x.toInt = ev_u x := by
  have h1 := ev_e_toInt x
  have h2 : ev_e (ev_u x) = (ev_u x + 2147483648) % 4294967296 := rfl
  omega
theorem z_and_le {x y : Int32} (hy : 0 ≤ y.toInt) : 0 ≤ (x &&& y).toInt ∧ (x &&& y).toInt ≤ y.toInt := by
  have h1 := ef_and_ok x y
  have h2 := z_u hy
  have h3 : ev_u (x &&& y) ≤ ev_u y := by rw [h1]; exact Nat.and_le_right
  have h4 := z_of_u (x := x &&& y) (by have := (z_rng y).2; omega)
  omega
theorem z_and_le' {x y : Int32} (hx : 0 ≤ x.toInt) : 0 ≤ (x &&& y).toInt ∧ (x &&& y).toInt ≤ x.toInt := by
  have h1 := ef_and_ok x y
  have h2 := z_u hx
  have h3 : ev_u (x &&& y) ≤ ev_u x := by rw [h1]; exact Nat.and_le_left
  have h4 := z_of_u (x := x &&& y) (by have := (z_rng x).2; omega)
  omega
theorem z_clamp (x : Int32) : x.toNatClampNeg = x.toInt.toNat := rfl
section ZR
variable {X : ez_X} {E : Nat → Nat × (Nat → Int32)} {ml : Nat → Nat} {hn : Nat → Nat → Option (Nat × Nat)} {mi d pc a b k : Nat} {i : ClassFile.Instr} {v : Int32} {cs : List ez_C} {ls : List (Option Value)} {st r : List Value} {h : ez_H} {Q : ez_Q} {x y z : Int32} {p q n : Nat}
theorem z_C {m : Int} (hi : ez_op i v st = some (.int v :: st)) (hn' : v.toInt = m) (H : ∀ x : Int32, x.toInt = m → ez_gw X E ml hn mi d cs 0 ls (.int x :: st) h Q) : ez_gw X E ml hn mi d ((pc, i, a, b, k, v) :: cs) 0 ls st h Q := gw_op hi (H v hn')
theorem z_add (hr : -2147483648 ≤ x.toInt + y.toInt ∧ x.toInt + y.toInt ≤ 2147483647) (H : ∀ z : Int32, z.toInt = x.toInt + y.toInt → ez_gw X E ml hn mi d cs 0 ls (.int z :: r) h Q) : ez_gw X E ml hn mi d ((pc, .iadd, a, b, k, v) :: cs) 0 ls (.int y :: .int x :: r) h Q := gw_op rfl (H _ (z_toInt_add hr))
theorem z_addW (H : ∀ z : Int32, z = x + y → ez_gw X E ml hn mi d cs 0 ls (.int z :: r) h Q) : ez_gw X E ml hn mi d ((pc, .iadd, a, b, k, v) :: cs) 0 ls (.int y :: .int x :: r) h Q := gw_op rfl (H _ rfl)
theorem z_sub (hr : -2147483648 ≤ x.toInt - y.toInt ∧ x.toInt - y.toInt ≤ 2147483647) (H : ∀ z : Int32, z.toInt = x.toInt - y.toInt → ez_gw X E ml hn mi d cs 0 ls (.int z :: r) h Q) : ez_gw X E ml hn mi d ((pc, .isub, a, b, k, v) :: cs) 0 ls (.int y :: .int x :: r) h Q := gw_op rfl (H _ (z_toInt_sub hr))
theorem z_mul (hr : -2147483648 ≤ x.toInt * y.toInt ∧ x.toInt * y.toInt ≤ 2147483647) (H : ∀ z : Int32, z.toInt = x.toInt * y.toInt → ez_gw X E ml hn mi d cs 0 ls (.int z :: r) h Q) : ez_gw X E ml hn mi d ((pc, .imul, a, b, k, v) :: cs) 0 ls (.int y :: .int x :: r) h Q := gw_op rfl (H _ (z_toInt_mul hr))
theorem z_mulW (H : ∀ z : Int32, z = x * y → ez_gw X E ml hn mi d cs 0 ls (.int z :: r) h Q) : ez_gw X E ml hn mi d ((pc, .imul, a, b, k, v) :: cs) 0 ls (.int y :: .int x :: r) h Q := gw_op rfl (H _ rfl)
theorem z_mulR {c : Int} (hy : y.toInt = c) (hr : -2147483648 ≤ x.toInt * c ∧ x.toInt * c ≤ 2147483647) (H : ∀ z : Int32, z.toInt = x.toInt * c → ez_gw X E ml hn mi d cs 0 ls (.int z :: r) h Q) : ez_gw X E ml hn mi d ((pc, .imul, a, b, k, v) :: cs) 0 ls (.int y :: .int x :: r) h Q := by
  subst hy; exact z_mul hr H
theorem z_mulL {c : Int} (hx : x.toInt = c) (hr : -2147483648 ≤ c * y.toInt ∧ c * y.toInt ≤ 2147483647) (H : ∀ z : Int32, z.toInt = c * y.toInt → ez_gw X E ml hn mi d cs 0 ls (.int z :: r) h Q) : ez_gw X E ml hn mi d ((pc, .imul, a, b, k, v) :: cs) 0 ls (.int y :: .int x :: r) h Q := by
  subst hx; exact z_mul hr H
theorem z_ac {f n m : Nat} {sp dp len : Int32} (hf : ez_few r = true) (tp : ez_t h p = 1000) (tq : ez_t h q = 1000) (lp : ez_l h p = n) (lq : ez_l h q = m) (hx : 0 ≤ sp.toInt ∧ 0 ≤ dp.toInt ∧ 0 ≤ len.toInt ∧ sp.toInt + len.toInt ≤ n ∧ dp.toInt + len.toInt ≤ m) (H : ∀ h2, h2 = ez_rowI h q (va_cpy (ez_I h p) (ez_I h q) sp.toInt.toNat dp.toInt.toNat len.toInt.toNat) → ez_gw X E ml hn mi d cs 0 ls r h2 Q) : ez_gw X E ml hn mi d ((pc, .invokestatic f, a, b, 3, v) :: cs) 0 ls (.int len :: .int dp :: .ref q :: .int sp :: .ref p :: r) h Q := by
  have nl : ∀ x : Int32, 0 ≤ x.toInt → ¬ x < 0 := fun x hx c => by
    have := Int32.lt_iff_toInt_lt.mp c
    have e : (0 : Int32).toInt = 0 := rfl
    omega
  refine gw_sm rfl rfl rfl rfl rfl ⟨hf, ⟨tp, tq⟩, nl _ hx.1, nl _ hx.2.1, nl _ hx.2.2.1, ?_, ?_⟩ (H _ rfl)
  · rw [lp, z_clamp, z_clamp]; omega
  · rw [lq, z_clamp, z_clamp]; omega
theorem z_and (H : ∀ z : Int32, z = x &&& y → (0 ≤ y.toInt → 0 ≤ z.toInt ∧ z.toInt ≤ y.toInt) → (0 ≤ x.toInt → 0 ≤ z.toInt ∧ z.toInt ≤ x.toInt) → ez_gw X E ml hn mi d cs 0 ls (.int z :: r) h Q) : ez_gw X E ml hn mi d ((pc, .iand, a, b, k, v) :: cs) 0 ls (.int y :: .int x :: r) h Q := gw_op rfl (H _ rfl z_and_le z_and_le')
/-- any op of two ints, of one -/
theorem z_2 {g : Int32} (hi : ez_op i v (.int y :: .int x :: r) = some (.int g :: r)) (H : ∀ z : Int32, z = g → ez_gw X E ml hn mi d cs 0 ls (.int z :: r) h Q) : ez_gw X E ml hn mi d ((pc, i, a, b, k, v) :: cs) 0 ls (.int y :: .int x :: r) h Q := gw_op hi (H _ rfl)
theorem z_1 {g : Int32} (hi : ez_op i v (.int x :: r) = some (.int g :: r)) (H : ∀ z : Int32, z = g → ez_gw X E ml hn mi d cs 0 ls (.int z :: r) h Q) : ez_gw X E ml hn mi d ((pc, i, a, b, k, v) :: cs) 0 ls (.int x :: r) h Q := gw_op hi (H _ rfl)
theorem z_inc {w : Int} (hx : ls.getD n none = some (.int x)) (hr : -2147483648 ≤ x.toInt + v.toInt ∧ x.toInt + v.toInt ≤ 2147483647) (H : ∀ z : Int32, z.toInt = x.toInt + v.toInt → ez_gw X E ml hn mi d cs 0 ((ez_cut ls n).set n (some (.int z))) st h Q) : ez_gw X E ml hn mi d ((pc, .iinc n w, a, b, k, v) :: cs) 0 ls st h Q := gw_st rfl rfl (by unfold ez_st; simp only [hx]) (H _ (z_toInt_add hr))
/-- branches -/
def z_ask (o : ClassFile.Cond) (x y : Int) : Prop := match o with
  | .eq => x = y
  | .ne => x ≠ y
  | .lt => x < y
  | .ge => y ≤ x
  | .gt => y < x
  | .le => x ≤ y
theorem z_ask_iff {o : ClassFile.Cond} : ev_ask o x y ↔ z_ask o x.toInt y.toInt := by
  cases o with
  | eq => exact Int32.toInt_inj.symm
  | ne => exact not_congr Int32.toInt_inj.symm
  | lt => exact Int32.lt_iff_toInt_lt
  | ge => exact Int32.le_iff_toInt_le
  | gt => exact Int32.lt_iff_toInt_lt
  | le => exact Int32.le_iff_toInt_le
theorem z_b1 {o : ClassFile.Cond} {w : Int} (Ht : z_ask o x.toInt 0 → ev_Jp X E ml hn mi d cs pc a ls r h Q) (Hf : ¬ z_ask o x.toInt 0 → ez_gw X E ml hn mi d cs 0 ls r h Q) : ez_gw X E ml hn mi d ((pc, .ifCond o w, a, b, k, v) :: cs) 0 ls (.int x :: r) h Q := by
  have e : ez_br (.ifCond o w) (.int x :: r) = some (ev_ask o x 0, r) := by
    unfold ez_br ev_ask; cases o <;> rfl
  have z := z_ask_iff (o := o) (x := x) (y := 0)
  exact gw_br rfl rfl rfl e (fun c => Ht (z.mp c)) (fun c => Hf (fun c' => c (z.mpr c')))
theorem z_b2 {o : ClassFile.Cond} {w : Int} (Ht : z_ask o x.toInt y.toInt → ev_Jp X E ml hn mi d cs pc a ls r h Q) (Hf : ¬ z_ask o x.toInt y.toInt → ez_gw X E ml hn mi d cs 0 ls r h Q) : ez_gw X E ml hn mi d ((pc, .if_icmp o w, a, b, k, v) :: cs) 0 ls (.int y :: .int x :: r) h Q := by
  have e : ez_br (.if_icmp o w) (.int y :: .int x :: r) = some (ev_ask o x y, r) := by
    unfold ez_br ev_ask; cases o <;> rfl
  have z := z_ask_iff (o := o) (x := x) (y := y)
  exact gw_br rfl rfl rfl e (fun c => Ht (z.mp c)) (fun c => Hf (fun c' => c (z.mpr c')))
theorem z_go {w : Int} (H : ev_Jp X E ml hn mi d cs pc a ls st h Q) : ez_gw X E ml hn mi d ((pc, .goto w, a, b, k, v) :: cs) 0 ls st h Q := gw_jp rfl rfl rfl rfl rfl rfl rfl H
/-- fields, arrays -/
theorem z_gI {f : Nat} (hk : k = 0 ∨ k = 1) (ht : ez_t h p = a) (H : ez_gw X E ml hn mi d cs 0 ls (.int (ez_I h p b) :: r) h Q) : ez_gw X E ml hn mi d ((pc, .getfield f, a, b, k, v) :: cs) 0 ls (.ref p :: r) h Q := by
  rcases hk with rfl | rfl <;> exact gw_sm rfl rfl rfl rfl rfl ht H
theorem z_gR {f : Nat} (ht : ez_t h p = a) (hq : ez_R h p b = q) (h0 : q ≠ 0) (H : ez_gw X E ml hn mi d cs 0 ls (.ref q :: r) h Q) : ez_gw X E ml hn mi d ((pc, .getfield f, a, b, 3, v) :: cs) 0 ls (.ref p :: r) h Q := by
  subst hq
  exact gw_sm rfl rfl rfl rfl rfl ⟨ht, h0⟩ H
theorem z_pI {f : Nat} (ht : ez_t h p = a) (H : ∀ h2, h2 = ez_setI h p b x → ez_gw X E ml hn mi d cs 0 ls r h2 Q) : ez_gw X E ml hn mi d ((pc, .putfield f, a, b, 0, v) :: cs) 0 ls (.int x :: .ref p :: r) h Q := gw_sm rfl rfl rfl rfl rfl ht (H _ rfl)
theorem z_pZ {f : Nat} (ht : ez_t h p = a) (hx : x.toInt = 0 ∨ x.toInt = 1) (H : ∀ h2, h2 = ez_setI h p b x → ez_gw X E ml hn mi d cs 0 ls r h2 Q) : ez_gw X E ml hn mi d ((pc, .putfield f, a, b, 1, v) :: cs) 0 ls (.int x :: .ref p :: r) h Q := gw_sm rfl rfl rfl rfl rfl ⟨ht, hx.imp (fun e => z_inj e) (fun e => z_inj e)⟩ (H _ rfl)
theorem z_gs {f : Nat} (H : ez_gw X E ml hn mi d cs 0 ls (.retAddr a :: st) h Q) : ez_gw X E ml hn mi d ((pc, .getstatic f, a, b, k, v) :: cs) 0 ls st h Q := gw_sm rfl rfl rfl rfl rfl trivial H
theorem z_ia (ht : ez_t h p = 1000) (hl : ez_l h p = n) (hx : 0 ≤ x.toInt ∧ x.toInt < n) (H : ez_gw X E ml hn mi d cs 0 ls (.int (ez_I h p x.toInt.toNat) :: r) h Q) : ez_gw X E ml hn mi d ((pc, .iaload, a, b, k, v) :: cs) 0 ls (.int x :: .ref p :: r) h Q := gw_sm rfl rfl rfl rfl rfl ⟨ht, by rw [hl]; exact vp_in_iff.mpr hx⟩ H
theorem z_iaE {j : Nat} {f : Nat → Int32} (he : E j = (n, f)) (hx : 0 ≤ x.toInt ∧ x.toInt < n) (H : ez_gw X E ml hn mi d cs 0 ls (.int (f x.toInt.toNat) :: r) h Q) : ez_gw X E ml hn mi d ((pc, .iaload, a, b, k, v) :: cs) 0 ls (.int x :: .retAddr j :: r) h Q := gw_sm rfl rfl rfl rfl rfl (by rw [he]; exact vp_in_iff.mpr hx) (by rw [he]; exact H)
theorem z_ba (ht : ez_t h p = 1003) (hl : ez_l h p = n) (hx : 0 ≤ x.toInt ∧ x.toInt < n) (H : ez_gw X E ml hn mi d cs 0 ls (.int (ez_I h p x.toInt.toNat) :: r) h Q) : ez_gw X E ml hn mi d ((pc, .baload, a, b, k, v) :: cs) 0 ls (.int x :: .ref p :: r) h Q := gw_sm rfl rfl rfl rfl rfl ⟨ht, by rw [hl]; exact vp_in_iff.mpr hx⟩ H
theorem z_la (ht : ez_t h p = 1002) (hl : ez_l h p = n) (hx : 0 ≤ x.toInt ∧ x.toInt < n) (H : ez_gw X E ml hn mi d cs 0 ls (.long (ez_L h p x.toInt.toNat) :: r) h Q) : ez_gw X E ml hn mi d ((pc, .laload, a, b, k, v) :: cs) 0 ls (.int x :: .ref p :: r) h Q := gw_sm rfl rfl rfl rfl rfl ⟨ht, by rw [hl]; exact vp_in_iff.mpr hx⟩ H
theorem z_is (ht : ez_t h p = 1000) (hl : ez_l h p = n) (hx : 0 ≤ x.toInt ∧ x.toInt < n) (H : ∀ h2, h2 = ez_setI h p x.toInt.toNat y → ez_gw X E ml hn mi d cs 0 ls r h2 Q) : ez_gw X E ml hn mi d ((pc, .iastore, a, b, k, v) :: cs) 0 ls (.int y :: .int x :: .ref p :: r) h Q := gw_sm rfl rfl rfl rfl rfl ⟨ht, by rw [hl]; exact vp_in_iff.mpr hx⟩ (H _ rfl)
theorem z_bs (ht : ez_t h p = 1003) (hl : ez_l h p = n) (hx : 0 ≤ x.toInt ∧ x.toInt < n) (H : ∀ h2, h2 = ez_setI h p x.toInt.toNat y.toInt8.toInt32 → ez_gw X E ml hn mi d cs 0 ls r h2 Q) : ez_gw X E ml hn mi d ((pc, .bastore, a, b, k, v) :: cs) 0 ls (.int y :: .int x :: .ref p :: r) h Q := gw_sm rfl rfl rfl rfl rfl ⟨ht, by rw [hl]; exact vp_in_iff.mpr hx⟩ (H _ rfl)
theorem z_ls {y : Int64} (ht : ez_t h p = 1002) (hl : ez_l h p = n) (hx : 0 ≤ x.toInt ∧ x.toInt < n) (H : ∀ h2, h2 = ez_setL h p x.toInt.toNat y → ez_gw X E ml hn mi d cs 0 ls r h2 Q) : ez_gw X E ml hn mi d ((pc, .lastore, a, b, k, v) :: cs) 0 ls (.long y :: .int x :: .ref p :: r) h Q := gw_sm rfl rfl rfl rfl rfl ⟨ht, by rw [hl]; exact vp_in_iff.mpr hx⟩ (H _ rfl)
theorem z_nI {n : Nat} (hn : n < 2147483648) : (nI n).toInt = n := nI_toInt hn
theorem z_al (ht : ez_t h p = 1000 ∨ ez_t h p = 1002 ∨ ez_t h p = 1003) (hl : ez_l h p = n) (hn' : n < 2147483648) (H : ∀ x : Int32, x.toInt = n → ez_gw X E ml hn mi d cs 0 ls (.int x :: r) h Q) : ez_gw X E ml hn mi d ((pc, .arraylength, a, b, k, v) :: cs) 0 ls (.ref p :: r) h Q := gw_sm rfl rfl rfl rfl rfl ht (H _ (by rw [hl]; exact z_nI hn'))
theorem z_alE {j : Nat} (he : (E j).1 = n) (hn' : n < 2147483648) (H : ∀ x : Int32, x.toInt = n → ez_gw X E ml hn mi d cs 0 ls (.int x :: r) h Q) : ez_gw X E ml hn mi d ((pc, .arraylength, a, b, k, v) :: cs) 0 ls (.retAddr j :: r) h Q := gw_sm rfl rfl rfl rfl rfl trivial (H _ (by rw [he]; exact z_nI hn'))
theorem z_dv (hy : y.toInt ≠ 0) (H : ∀ z : Int32, z = x / y → ez_gw X E ml hn mi d cs 0 ls (.int z :: r) h Q) : ez_gw X E ml hn mi d ((pc, .idiv, a, b, k, v) :: cs) 0 ls (.int y :: .int x :: r) h Q := gw_sm rfl rfl rfl rfl rfl (fun e => hy (by rw [e]; rfl)) (H _ rfl)
theorem z_rm (hy : y.toInt ≠ 0) (H : ∀ z : Int32, z = x - x / y * y → ez_gw X E ml hn mi d cs 0 ls (.int z :: r) h Q) : ez_gw X E ml hn mi d ((pc, .irem, a, b, k, v) :: cs) 0 ls (.int y :: .int x :: r) h Q := gw_sm rfl rfl rfl rfl rfl (fun e => hy (by rw [e]; rfl)) (H _ rfl)
theorem z_max {f : Nat} (hf : ez_few r = true) (H : ∀ z : Int32, ((x.toInt < y.toInt ∧ z.toInt = y.toInt) ∨ (y.toInt ≤ x.toInt ∧ z.toInt = x.toInt)) → ez_gw X E ml hn mi d cs 0 ls (.int z :: r) h Q) : ez_gw X E ml hn mi d ((pc, .invokestatic f, a, b, 1, v) :: cs) 0 ls (.int y :: .int x :: r) h Q := gw_sm rfl rfl rfl rfl rfl hf (H _ (by
  by_cases c : x < y
  · exact .inl ⟨Int32.lt_iff_toInt_lt.mp c, by simp only [c, ↓reduceIte]⟩
  · exact .inr ⟨by have := mt Int32.lt_iff_toInt_lt.mpr c; omega, by simp only [c, ↓reduceIte]⟩))
theorem z_min {f : Nat} (hf : ez_few r = true) (H : ∀ z : Int32, ((y.toInt < x.toInt ∧ z.toInt = y.toInt) ∨ (x.toInt ≤ y.toInt ∧ z.toInt = x.toInt)) → ez_gw X E ml hn mi d cs 0 ls (.int z :: r) h Q) : ez_gw X E ml hn mi d ((pc, .invokestatic f, a, b, 2, v) :: cs) 0 ls (.int y :: .int x :: r) h Q := gw_sm rfl rfl rfl rfl rfl hf (H _ (by
  by_cases c : y < x
  · exact .inl ⟨Int32.lt_iff_toInt_lt.mp c, by simp only [c, ↓reduceIte]⟩
  · exact .inr ⟨by have := mt Int32.lt_iff_toInt_lt.mpr c; omega, by simp only [c, ↓reduceIte]⟩))
theorem z_ri (H : Q (.inl (some (.int x))) h) : ez_gw X E ml hn mi d ((pc, .ireturn, 0, b, k, v) :: cs) 0 ls [.int x] h Q := gw_rt rfl rfl rfl rfl rfl rfl trivial H
theorem z_rz (hx : x.toInt = 0 ∨ x.toInt = 1) (H : Q (.inl (some (.int x))) h) : ez_gw X E ml hn mi d ((pc, .ireturn, 1, b, k, v) :: cs) 0 ls [.int x] h Q := gw_rt rfl rfl rfl rfl rfl rfl (hx.imp (fun e => z_inj e) (fun e => z_inj e)) H
theorem z_rv (H : Q (.inl none) h) : ez_gw X E ml hn mi d ((pc, .return_, a, b, k, v) :: cs) 0 ls [] h Q := gw_rt rfl rfl rfl rfl rfl rfl trivial H
end ZR

