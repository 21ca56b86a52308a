/-! the check sum: two steps by a table are eight steps by a bit -/
noncomputable def btV (x : BitVec 32) : BitVec 32 := bif x.getLsbD 0 then (x >>> 1) ^^^ 0xEDB88320#32 else x >>> 1
noncomputable def bt4 (x : BitVec 32) : BitVec 32 := btV (btV (btV (btV x)))
theorem btV_xor (a b : BitVec 32) : btV (a ^^^ b) = btV a ^^^ btV b := by
  refine BitVec.eq_of_getLsbD_eq (fun i hi => ?_)
  unfold btV
  rw [BitVec.getLsbD_xor]
  cases ha : a.getLsbD 0 <;> cases hb : b.getLsbD 0
  · show ((a ^^^ b) >>> 1).getLsbD i = ((a >>> 1) ^^^ (b >>> 1)).getLsbD i
    rw [BitVec.getLsbD_xor, BitVec.getLsbD_ushiftRight, BitVec.getLsbD_ushiftRight, BitVec.getLsbD_ushiftRight, BitVec.getLsbD_xor]
  · show (((a ^^^ b) >>> 1) ^^^ 0xEDB88320#32).getLsbD i = ((a >>> 1) ^^^ ((b >>> 1) ^^^ 0xEDB88320#32)).getLsbD i
    rw [BitVec.getLsbD_xor, BitVec.getLsbD_xor, BitVec.getLsbD_xor, BitVec.getLsbD_ushiftRight, BitVec.getLsbD_ushiftRight, BitVec.getLsbD_ushiftRight, BitVec.getLsbD_xor]
    cases a.getLsbD (1 + i) <;> cases b.getLsbD (1 + i) <;> cases (0xEDB88320#32).getLsbD i <;> rfl
  · show (((a ^^^ b) >>> 1) ^^^ 0xEDB88320#32).getLsbD i = (((a >>> 1) ^^^ 0xEDB88320#32) ^^^ (b >>> 1)).getLsbD i
    rw [BitVec.getLsbD_xor, BitVec.getLsbD_xor, BitVec.getLsbD_xor, BitVec.getLsbD_ushiftRight, BitVec.getLsbD_ushiftRight, BitVec.getLsbD_ushiftRight, BitVec.getLsbD_xor]
    cases a.getLsbD (1 + i) <;> cases b.getLsbD (1 + i) <;> cases (0xEDB88320#32).getLsbD i <;> rfl
  · show ((a ^^^ b) >>> 1).getLsbD i = (((a >>> 1) ^^^ 0xEDB88320#32) ^^^ ((b >>> 1) ^^^ 0xEDB88320#32)).getLsbD i
    rw [BitVec.getLsbD_xor, BitVec.getLsbD_xor, BitVec.getLsbD_xor, BitVec.getLsbD_ushiftRight, BitVec.getLsbD_ushiftRight, BitVec.getLsbD_ushiftRight, BitVec.getLsbD_xor]
    cases a.getLsbD (1 + i) <;> cases b.getLsbD (1 + i) <;> cases (0xEDB88320#32).getLsbD i <;> rfl
theorem bt4_xor (a b : BitVec 32) : bt4 (a ^^^ b) = bt4 a ^^^ bt4 b := by
  unfold bt4
  rw [btV_xor, btV_xor, btV_xor, btV_xor]
theorem btV_0 {x : BitVec 32} (h : x.getLsbD 0 = false) : btV x = x >>> 1 := by
  unfold btV
  rw [h]
  rfl
theorem lo_15 (x : BitVec 32) (i : Nat) : (x &&& ~~~15#32).getLsbD i = (x.getLsbD i && (decide (i < 32) && !(decide (i < 32) && Nat.testBit 15 i))) := by
  rw [BitVec.getLsbD_and, BitVec.getLsbD_not, BitVec.getLsbD_ofNat]
theorem bt4_hi (x : BitVec 32) : bt4 (x &&& ~~~15#32) = x >>> 4 := by
  have z : ∀ i, i < 4 → ((x &&& ~~~15#32) >>> i).getLsbD 0 = false := fun i hi => by
    rw [BitVec.getLsbD_ushiftRight, lo_15]
    have e : Nat.testBit 15 (i + 0) = true := by
      rcases (by omega : i = 0 ∨ i = 1 ∨ i = 2 ∨ i = 3) with q | q | q | q <;> rw [q] <;> rfl
    rw [e]
    cases x.getLsbD (i + 0) <;> cases decide (i + 0 < 32) <;> rfl
  have s : ∀ (y : BitVec 32) (a : Nat), (y >>> a) >>> 1 = y >>> (a + 1) := fun y a => by
    refine BitVec.eq_of_getLsbD_eq (fun i hi => ?_)
    rw [BitVec.getLsbD_ushiftRight, BitVec.getLsbD_ushiftRight, BitVec.getLsbD_ushiftRight, show a + (1 + i) = a + 1 + i by omega]
  have z0 : (x &&& ~~~15#32).getLsbD 0 = false := by
    have := z 0 (by decide)
    rw [BitVec.getLsbD_ushiftRight] at this
    exact this
  unfold bt4
  rw [btV_0 z0, btV_0 (z 1 (by decide)), s, btV_0 (z 2 (by decide)), s, btV_0 (z 3 (by decide)), s]
  refine BitVec.eq_of_getLsbD_eq (fun i hi => ?_)
  rw [BitVec.getLsbD_ushiftRight, BitVec.getLsbD_ushiftRight, lo_15]
  show (x.getLsbD (4 + i) && _) = x.getLsbD (4 + i)
  by_cases c : 4 + i < 32
  · have e : Nat.testBit 15 (4 + i) = false := Nat.testBit_lt_two_pow (Nat.lt_of_lt_of_le (by decide : 15 < 2 ^ 4) (Nat.pow_le_pow_right (by decide) (by omega)))
    rw [e, decide_eq_true c]
    cases x.getLsbD (4 + i) <;> rfl
  · rw [BitVec.getLsbD_of_ge x (4 + i) (by omega)]
    rfl
theorem sp_15 (x : BitVec 32) : (x &&& 15#32) ^^^ (x &&& ~~~15#32) = x := by
  refine BitVec.eq_of_getLsbD_eq (fun i hi => ?_)
  rw [BitVec.getLsbD_xor, lo_15, BitVec.getLsbD_and, BitVec.getLsbD_ofNat, decide_eq_true hi]
  cases x.getLsbD i <;> cases Nat.testBit 15 i <;> rfl
theorem bt4_is (x : BitVec 32) : bt4 x = (x >>> 4) ^^^ bt4 (x &&& 15#32) := by
  have h : bt4 ((x &&& 15#32) ^^^ (x &&& ~~~15#32)) = (x >>> 4) ^^^ bt4 (x &&& 15#32) := by
    rw [bt4_xor, bt4_hi, BitVec.xor_comm]
  rw [sp_15] at h
  exact h
theorem tz_CR {n : Nat} (h : n < 16) : ((tz_ar (0 + 1)).getD n 0).toBitVec = bt4 (BitVec.ofNat 32 n) := by
  revert n; decide
theorem us_bv {x y z : Int32} {n : Nat} (hy : y.toInt = n) (hn : n < 32) (hz : z = (x.toUInt32 >>> (y.toUInt32 &&& Int32.toUInt32 31)).toInt32) : z.toBitVec = x.toBitVec >>> n := by
  have ey : y = Int32.ofNat n := z_inj (by rw [hy]; exact (z_nI (n := n) (by omega)).symm)
  have e2 : ∀ m : Nat, m < 32 → (((Int32.ofNat m).toUInt32 &&& Int32.toUInt32 31).toBitVec % 32#32).toNat = m := by decide
  rw [hz, ey]
  show x.toBitVec >>> (((Int32.ofNat n).toUInt32 &&& Int32.toUInt32 31).toBitVec % 32#32).toNat = _
  rw [e2 n hn]
/-- half a byte by the table -/
theorem hf_step {c u m t z y w : Int32} (hy : y.toInt = 4) (hw : w.toInt = 15) (eu : u = (c.toUInt32 >>> (y.toUInt32 &&& Int32.toUInt32 31)).toInt32) (em : m = c &&& w) (et : (tz_ar (0 + 1)).getD m.toInt.toNat 0 = t) (ez : z = u ^^^ t) : z.toBitVec = bt4 c.toBitVec := by
  have hw2 : w = 15 := z_inj (by rw [hw]; rfl)
  have v := n_mask (k := 4) (by decide) (by rw [hw]; rfl) em
  rw [show (2 : Int) ^ 4 = 16 from rfl] at v
  have h1 := tz_CR (n := m.toInt.toNat) (by omega)
  have h2 : m.toBitVec = c.toBitVec &&& 15#32 := by rw [em, hw2]; rfl
  have h3 : BitVec.ofNat 32 m.toInt.toNat = m.toBitVec := by
    have hu := z_u (x := m) (by omega)
    refine BitVec.eq_of_toNat_eq ?_
    rw [BitVec.toNat_ofNat]
    have h4 : ev_u m = m.toBitVec.toNat := rfl
    rw [Nat.mod_eq_of_lt (by omega)]
    omega
  rw [et, h3, h2] at h1
  have h5 := us_bv (n := 4) hy (by decide) eu
  rw [bt4_is, ez, ← h5, ← h1]
  rfl
/-- one bit -/
theorem b1_is {x o v : Int32} (ho : o.toInt = 1) (ev : v = x &&& o) : x.toBitVec.getLsbD 0 = decide (v.toInt = 1) := by
  have h := n_mask (k := 1) (by decide) (by rw [ho]; rfl) ev
  rw [show (2 : Int) ^ 1 = 2 from rfl] at h
  have h2 : x.toBitVec.getLsbD 0 = decide (x.toBitVec.toNat % 2 = 1) := by
    show Nat.testBit x.toBitVec.toNat 0 = _
    exact Nat.testBit_zero _
  have h3 : x.toInt % 2 = ((x.toBitVec.toNat % 2 : Nat) : Int) := by
    show x.toBitVec.toInt % 2 = _
    rw [BitVec.toInt_eq_toNat_cond]
    split <;> omega
  rw [h2]
  have h4 : x.toBitVec.toNat % 2 < 2 := Nat.mod_lt _ (by decide)
  by_cases c : x.toBitVec.toNat % 2 = 1
  · rw [decide_eq_true c, decide_eq_true (by omega)]
  · rw [decide_eq_false c, decide_eq_false (by omega)]
theorem bt_y {x o v u p z y : Int32} (ho : o.toInt = 1) (ev : v = x &&& o) (hv : v.toInt = 1) (hy : y.toInt = 1) (eu : u = (x.toUInt32 >>> (y.toUInt32 &&& Int32.toUInt32 31)).toInt32) (hp : p.toInt = -306674912) (ez : z = u ^^^ p) : z.toBitVec = btV x.toBitVec := by
  have h1 := b1_is ho ev
  have h2 := us_bv (n := 1) hy (by decide) eu
  have hp2 : p = -306674912 := z_inj (by rw [hp]; rfl)
  unfold btV
  rw [h1, decide_eq_true hv, ez, hp2]
  show u.toBitVec ^^^ (-306674912 : Int32).toBitVec = (x.toBitVec >>> 1) ^^^ 0xEDB88320#32
  rw [h2]
  rfl
theorem bt_n {x o v u y : Int32} (ho : o.toInt = 1) (ev : v = x &&& o) (hv : v.toInt ≠ 1) (hy : y.toInt = 1) (eu : u = (x.toUInt32 >>> (y.toUInt32 &&& Int32.toUInt32 31)).toInt32) : u.toBitVec = btV x.toBitVec := by
  have h1 := b1_is ho ev
  have h2 := us_bv (n := 1) hy (by decide) eu
  unfold btV
  rw [h1, decide_eq_false hv, h2]
  rfl
noncomputable def btN (x : BitVec 32) : Nat → BitVec 32
  | 0 => x
  | j + 1 => btV (btN x j)
noncomputable def crV (f : Nat → BitVec 32) : Nat → BitVec 32
  | 0 => (-1 : Int32).toBitVec
  | i + 1 => bt4 (bt4 (crV f i ^^^ f i))
theorem bt_8 (x : BitVec 32) : btN x 8 = bt4 (bt4 x) := rfl
theorem crV_c {f g : Nat → BitVec 32} : ∀ n, (∀ i, i < n → f i = g i) → crV f n = crV g n := by
  intro n
  induction n with
  | zero => intro _; rfl
  | succ n ih =>
    intro h
    show bt4 (bt4 (crV f n ^^^ f n)) = bt4 (bt4 (crV g n ^^^ g n))
    rw [ih (fun i hi => h i (by omega)), h n (by omega)]
noncomputable def bvC (f : Nat → Int32) : Nat → BitVec 32 := fun i => (f i).toBitVec
noncomputable def bvM (f : Nat → Int32) : Nat → BitVec 32 := fun i => (f i &&& 255).toBitVec
theorem bv_eq {x y : Int32} {f g : Nat → Int32} (R : rTp x f y g) : crV (bvC f) x.toInt.toNat = crV (bvM g) y.toInt.toNat := by
  obtain ⟨r1, r2, r3, r4, r5⟩ := R
  rw [← r1]
  refine crV_c _ (fun i hi => ?_)
  have e : f i = g i &&& 255 := by
    refine z_inj ?_
    have v := n_mask (x := g i) (y := 255) (k := 8) (by decide) rfl rfl
    rw [show (2 : Int) ^ 8 = 256 from rfl] at v
    rw [v]
    exact r4 i (by omega)
  show (f i).toBitVec = (g i &&& 255).toBitVec
  rw [e]
theorem m1_is {y : Int32} (h : y.toInt = -1) : y = -1 := z_inj (by rw [h]; rfl)
/-! PRINTED by wip/pack: crc, told in full -/
set_option maxRecDepth 4000 in
set_option maxHeartbeats 2000000 in
theorem x_crcF_L0 {E : Nat → Nat × (Nat → Int32)} {d : Nat} {Q : ez_Q} {h : ez_H}  (S : zSh h) (hE : zE E) (hz : 0 ≤ (ez_I h 2 1).toInt ∧ (ez_I h 2 1).toInt ≤ 6000) (K : ∀ x : Int32, x.toBitVec = crV (bvC (ez_I h 3)) (ez_I h 2 1).toInt.toNat ^^^ (-1 : Int32).toBitVec → Q (.inl (some (.int x))) h) : ∀ N : Nat, (∀ (h2 : ez_H) (c : Int32) (i : Int32) , zW (fun _ _ => False) (fun _ => False) (fun _ => False) h h2 → (0 ≤ i.toInt ∧ i.toInt ≤ (ez_I h 2 1).toInt) → (c.toBitVec = crV (bvC (ez_I h 3)) i.toInt.toNat) → (10000 - i.toInt) < (N : Int) → pw E d 6 4 [some (.ref 1), some (.int c), some (.int i)] [] h2 Q) := by
  intro N
  induction N with
  | zero => exact fun h2 c i  F hinv A_cr hm => absurd hm (by have w_c := z_rng c; have w_i := z_rng i; omega)
  | succ N ih =>
    refine fun h2 c i  F hinv A_cr hm => ?_
    · skip
      have w_c := z_rng c
      have w_i := z_rng i
      have S2 := zW_sh F S
      apply ez_Wp_in
      show ez_gw _ _ _ _ _ _ (cz_6) _ _ _ _ _
      refine gw_skip _ ?_
      refine gw_ld rfl rfl ?_
      refine gw_ld rfl rfl ?_
      refine z_gR (q := 2) (zT S2 (by decide) rfl) (zRf S2 (by decide) (by decide) rfl) (by decide) ?_
      have r1 := z_rng (ez_I h 2 1)
      refine z_gI2 (by decide) (zT S2 (by decide) rfl) (zW_f F (fun c => c) (fun c => c)) ?_
      refine z_b2 (fun c2 => ?_) (fun c2 => ?_)
      · have c2 : ((ez_I h 2 1)).toInt ≤ i.toInt := c2
        refine gw_skip _ ?_
        refine gw_ld rfl rfl ?_
        refine z_C (m := -1) rfl rfl (fun x3 ex3 => ?_)
        refine z_2 rfl (fun x4 ex4 => ?_)
        have rx4 := z_rng x4
        refine z_ri ?_
        exact zW_Q F (K _ (by rw [ex4, m1_is ex3, show (ez_I h 2 1).toInt.toNat = i.toInt.toNat by omega, ← A_cr]; rfl))
      · have c2 : ¬ (((ez_I h 2 1)).toInt ≤ i.toInt) := c2
        refine gw_ld rfl rfl ?_
        refine gw_ld rfl rfl ?_
        refine z_gR (q := 2) (zT S2 (by decide) rfl) (zRf S2 (by decide) (by decide) rfl) (by decide) ?_
        refine z_gR (q := 3) (zT S2 (by decide) rfl) (zRf S2 (by decide) (by decide) rfl) (by decide) ?_
        refine gw_ld rfl rfl ?_
        refine z_iaV (n := 6100) (zT S2 (by decide) rfl) (zN S2 (by decide) rfl) (by omega) (zW_f F (fun c => c) (fun c => c)) ?_
        generalize ex5 : ez_I h 3 i.toInt.toNat = x5
        have rx5 := z_rng x5
        refine z_2 rfl (fun x6 ex6 => ?_)
        have rx6 := z_rng x6
        refine gw_st rfl rfl rfl ?_
        show ez_gw _ _ _ _ _ _ _ _ [some (.ref 1), some (.int x6), some (.int i)] _ _ _
        refine gw_ld rfl rfl ?_
        refine z_C (m := 4) rfl rfl (fun x7 ex7 => ?_)
        refine z_2 rfl (fun x8 ex8 => ?_)
        have rx8 := z_rng x8
        refine z_gs ?_
        refine gw_ld rfl rfl ?_
        refine z_C (m := 15) rfl rfl (fun x9 ex9 => ?_)
        refine z_and (fun x10 ex10 ux10 wx10 => ?_)
        have rx10 := z_rng x10
        replace ux10 := ux10 (by omega)
        clear wx10
        have vx10 := n_mask (k := 4) (by decide) (by omega) ex10
        rw [show (2 : Int) ^ 4 = 16 from rfl] at vx10
        refine z_iaE (n := 16) (hE 0) (by omega) ?_
        generalize ex11 : (tz_ar (0 + 1)).getD x10.toInt.toNat 0 = x11
        have rx11 := z_rng x11
        refine z_2 rfl (fun x12 ex12 => ?_)
        have rx12 := z_rng x12
        refine gw_st rfl rfl rfl ?_
        show ez_gw _ _ _ _ _ _ _ _ [some (.ref 1), some (.int x12), some (.int i)] _ _ _
        refine gw_ld rfl rfl ?_
        refine z_C (m := 4) rfl rfl (fun x13 ex13 => ?_)
        refine z_2 rfl (fun x14 ex14 => ?_)
        have rx14 := z_rng x14
        refine z_gs ?_
        refine gw_ld rfl rfl ?_
        refine z_C (m := 15) rfl rfl (fun x15 ex15 => ?_)
        refine z_and (fun x16 ex16 ux16 wx16 => ?_)
        have rx16 := z_rng x16
        replace ux16 := ux16 (by omega)
        clear wx16
        have vx16 := n_mask (k := 4) (by decide) (by omega) ex16
        rw [show (2 : Int) ^ 4 = 16 from rfl] at vx16
        refine z_iaE (n := 16) (hE 0) (by omega) ?_
        generalize ex17 : (tz_ar (0 + 1)).getD x16.toInt.toNat 0 = x17
        have rx17 := z_rng x17
        refine z_2 rfl (fun x18 ex18 => ?_)
        have rx18 := z_rng x18
        refine gw_st rfl rfl rfl ?_
        show ez_gw _ _ _ _ _ _ _ _ [some (.ref 1), some (.int x18), some (.int i)] _ _ _
        have s0 : x6.toBitVec = c.toBitVec ^^^ x5.toBitVec := by rw [ex6]; rfl
        have s1 := hf_step ex7 ex9 ex8 ex10 ex11 ex12
        have s2 := hf_step ex13 ex15 ex14 ex16 ex17 ex18
        have hcr : x18.toBitVec = crV (bvC (ez_I h 3)) (i.toInt.toNat + 1) := by
          rw [s2, s1, s0, A_cr, ← ex5]
          rfl
        refine z_inc rfl (by rw [show (1 : Int32).toInt = 1 from rfl]; omega) (fun x19 ex19 => ?_)
        rw [show (1 : Int32).toInt = 1 from rfl] at ex19
        show ez_gw _ _ _ _ _ _ _ _ [some (.ref 1), some (.int x18), some (.int x19)] _ _ _
        refine z_go ?_
        exact ih h2 x18 x19 F (by omega) ((by rw [show x19.toInt.toNat = i.toInt.toNat + 1 by omega]; exact hcr)) (by omega)
set_option maxRecDepth 4000 in
set_option maxHeartbeats 2000000 in
theorem x_crcF {E : Nat → Nat × (Nat → Int32)} {d : Nat} {Q : ez_Q} {h : ez_H}  (S : zSh h) (hE : zE E) (hz : 0 ≤ (ez_I h 2 1).toInt ∧ (ez_I h 2 1).toInt ≤ 6000) (K : ∀ x : Int32, x.toBitVec = crV (bvC (ez_I h 3)) (ez_I h 2 1).toInt.toNat ^^^ (-1 : Int32).toBitVec → Q (.inl (some (.int x))) h) : pw E d 6 0 [some (.ref 1), none, none] [] h Q := by
  have F := zW_refl (fun _ _ => False) (fun _ => False) (fun _ => False) h
  apply ez_Wp_in
  show ez_gw _ _ _ _ _ _ (cz_6) _ _ _ _ _
  refine gw_skip _ ?_
  refine z_C (m := -1) rfl rfl (fun x1 ex1 => ?_)
  refine gw_st rfl rfl rfl ?_
  show ez_gw _ _ _ _ _ _ _ _ [some (.ref 1), some (.int x1), none] _ _ _
  refine z_C (m := 0) rfl rfl (fun x2 ex2 => ?_)
  refine gw_st rfl rfl rfl ?_
  show ez_gw _ _ _ _ _ _ _ _ [some (.ref 1), some (.int x1), some (.int x2)] _ _ _
  exact ez_Wp_at ((x_crcF_L0  S hE hz K (((10000 - x2.toInt)).toNat + 1)) h x1 x2 F (by omega) ((by rw [m1_is ex1, show x2.toInt.toNat = 0 by omega]; rfl)) (by omega)) rfl
theorem x78_0 : ∀ k : Nat, ¬ (72 = 71 ∧ k = 0) := fun k c => by omega
set_option maxRecDepth 4000 in
set_option maxHeartbeats 2000000 in
theorem m_crcF_L0 {E : Nat → Nat × (Nat → Int32)} {d : Nat} {Q : ez_Q} {h : ez_H}  (S : zSh h) (hz : 0 ≤ (ez_I h 71 6).toInt ∧ (ez_I h 71 6).toInt ≤ 6000) (K : ∀ h2 (x : Int32), zW (fun q k => q = 71 ∧ k = 0) (fun _ => False) (fun _ => False) h h2 → x.toBitVec = crV (bvM (ez_I h 72)) (ez_I h 71 6).toInt.toNat ^^^ (-1 : Int32).toBitVec → Q (.inl (some (.int x))) h2) : ∀ N : Nat, (∀ (h2 : ez_H) (c : Int32) (i : Int32) (l3 : Option Value) , zW (fun q k => q = 71 ∧ k = 0) (fun _ => False) (fun _ => False) h h2 → (0 ≤ i.toInt ∧ i.toInt ≤ (ez_I h 71 6).toInt) → (c.toBitVec = crV (bvM (ez_I h 72)) i.toInt.toNat) → (100 * (10000 - i.toInt)) < (N : Int) → pw E d 30 9 [some (.ref 71), some (.int c), some (.int i), l3] [] h2 Q) ∧ (∀ (h2 : ez_H) (c : Int32) (i : Int32) (j : Int32) , zW (fun q k => q = 71 ∧ k = 0) (fun _ => False) (fun _ => False) h h2 → (0 ≤ i.toInt ∧ i.toInt < (ez_I h 71 6).toInt ∧ 0 ≤ j.toInt ∧ j.toInt ≤ 8) → (c.toBitVec = btN (crV (bvM (ez_I h 72)) i.toInt.toNat ^^^ bvM (ez_I h 72) i.toInt.toNat) j.toInt.toNat) → (100 * (10000 - i.toInt) - 1 - j.toInt) < (N : Int) → pw E d 30 32 [some (.ref 71), some (.int c), some (.int i), some (.int j)] [] h2 Q) := by
  intro N
  induction N with
  | zero => exact ⟨fun h2 c i l3  F hinv A_cr hm => absurd hm (by have w_c := z_rng c; have w_i := z_rng i; omega), fun h2 c i j  F hinv A_in hm => absurd hm (by have w_c := z_rng c; have w_i := z_rng i; have w_j := z_rng j; omega)⟩
  | succ N ih =>
    refine ⟨fun h2 c i l3  F hinv A_cr hm => ?_, fun h2 c i j  F hinv A_in hm => ?_⟩
    · skip
      have w_c := z_rng c
      have w_i := z_rng i
      have S2 := zW_sh F S
      apply ez_Wp_in
      show ez_gw _ _ _ _ _ _ (cz_30) _ _ _ _ _
      refine gw_skip _ ?_
      have r1 := z_rng (ez_I h2 71 0)
      refine gw_ld rfl rfl ?_
      refine gw_ld rfl rfl ?_
      have r2 := z_rng (ez_I h 71 6)
      refine z_gI2 (by decide) (zT S2 (by decide) rfl) (zW_f F (fun c => c) (by decide)) ?_
      refine z_b2 (fun c3 => ?_) (fun c3 => ?_)
      · have c3 : ((ez_I h 71 6)).toInt ≤ i.toInt := c3
        refine gw_skip _ ?_
        refine gw_ld rfl rfl ?_
        refine z_C (m := -1) rfl rfl (fun x4 ex4 => ?_)
        refine z_2 rfl (fun x5 ex5 => ?_)
        have rx5 := z_rng x5
        refine z_ri ?_
        exact K _ _ F (by rw [ex5, m1_is ex4, show (ez_I h 71 6).toInt.toNat = i.toInt.toNat by omega, ← A_cr]; rfl)
      · have c3 : ¬ (((ez_I h 71 6)).toInt ≤ i.toInt) := c3
        refine gw_ld rfl rfl ?_
        refine gw_ld rfl rfl ?_
        refine z_gR (q := 72) (zT S2 (by decide) rfl) (zRf S2 (by decide) (by decide) rfl) (by decide) ?_
        refine gw_ld rfl rfl ?_
        refine z_baV (n := 6000) (zT S2 (by decide) rfl) (zN S2 (by decide) rfl) (by omega) (zW_f F (fun c => c) (x78_0 _)) ?_
        generalize ex6 : ez_I h 72 i.toInt.toNat = x6
        have rx6 := z_rng x6
        refine z_C (m := 255) rfl rfl (fun x7 ex7 => ?_)
        refine z_and (fun x8 ex8 ux8 wx8 => ?_)
        have rx8 := z_rng x8
        replace ux8 := ux8 (by omega)
        clear wx8
        refine z_2 rfl (fun x9 ex9 => ?_)
        have rx9 := z_rng x9
        refine gw_st rfl rfl rfl ?_
        show ez_gw _ _ _ _ _ _ _ _ [some (.ref 71), some (.int x9), some (.int i), l3] _ _ _
        have s0 : x9.toBitVec = btN (crV (bvM (ez_I h 72)) i.toInt.toNat ^^^ bvM (ez_I h 72) i.toInt.toNat) 0 := by
          have q1 : x8 = ez_I h 72 i.toInt.toNat &&& 255 := by rw [ex8, show x7 = (255 : Int32) from z_inj ex7, ← ex6]
          rw [ex9, q1]
          show c.toBitVec ^^^ _ = crV (bvM (ez_I h 72)) i.toInt.toNat ^^^ _
          rw [A_cr]
          rfl
        refine z_C (m := 0) rfl rfl (fun x10 ex10 => ?_)
        refine gw_st rfl rfl rfl ?_
        show ez_gw _ _ _ _ _ _ _ _ [some (.ref 71), some (.int x9), some (.int i), some (.int x10)] _ _ _
        exact ez_Wp_at (ih.2 h2 x9 i x10 F (by omega) ((by rw [show x10.toInt.toNat = 0 by omega]; exact s0)) (by omega)) rfl
    · skip
      have w_c := z_rng c
      have w_i := z_rng i
      have w_j := z_rng j
      have S2 := zW_sh F S
      apply ez_Wp_in
      show ez_gw _ _ _ _ _ _ (cz_30) _ _ _ _ _
      refine gw_skip _ ?_
      have r11 := z_rng (ez_I h2 71 0)
      refine gw_ld rfl rfl ?_
      refine z_C (m := 8) rfl rfl (fun x12 ex12 => ?_)
      refine z_b2 (fun c13 => ?_) (fun c13 => ?_)
      · have c13 : x12.toInt ≤ j.toInt := c13
        refine gw_skip _ ?_
        refine z_inc rfl (by rw [show (1 : Int32).toInt = 1 from rfl]; omega) (fun x14 ex14 => ?_)
        rw [show (1 : Int32).toInt = 1 from rfl] at ex14
        show ez_gw _ _ _ _ _ _ _ _ [some (.ref 71), some (.int c), some (.int x14), some (.int j)] _ _ _
        refine z_go ?_
        exact ih.1 h2 c x14 (some (.int j)) F (by omega) ((by have b1 := A_in; rw [show j.toInt.toNat = 8 by omega, bt_8] at b1; rw [show x14.toInt.toNat = i.toInt.toNat + 1 by omega]; exact b1)) (by omega)
      · have c13 : ¬ (x12.toInt ≤ j.toInt) := c13
        refine gw_ld rfl rfl ?_
        refine z_C (m := 1) rfl rfl (fun x15 ex15 => ?_)
        refine z_and (fun x16 ex16 ux16 wx16 => ?_)
        have rx16 := z_rng x16
        replace ux16 := ux16 (by omega)
        clear wx16
        refine z_C (m := 1) rfl rfl (fun x17 ex17 => ?_)
        refine z_b2 (fun c18 => ?_) (fun c18 => ?_)
        · have c18 : x16.toInt ≠ x17.toInt := c18
          refine gw_skip _ ?_
          refine gw_ld rfl rfl ?_
          refine z_C (m := 1) rfl rfl (fun x19 ex19 => ?_)
          refine z_2 rfl (fun x20 ex20 => ?_)
          have rx20 := z_rng x20
          have s1 := bt_n ex15 ex16 (by omega) ex19 ex20
          have s2 : x20.toBitVec = btN (crV (bvM (ez_I h 72)) i.toInt.toNat ^^^ bvM (ez_I h 72) i.toInt.toNat) (j.toInt.toNat + 1) := by
            rw [s1, A_in]
            rfl
          refine gw_st rfl rfl rfl ?_
          show ez_gw _ _ _ _ _ _ _ _ [some (.ref 71), some (.int x20), some (.int i), some (.int j)] _ _ _
          refine z_inc rfl (by rw [show (1 : Int32).toInt = 1 from rfl]; omega) (fun x21 ex21 => ?_)
          rw [show (1 : Int32).toInt = 1 from rfl] at ex21
          show ez_gw _ _ _ _ _ _ _ _ [some (.ref 71), some (.int x20), some (.int i), some (.int x21)] _ _ _
          refine z_go ?_
          exact ih.2 h2 x20 i x21 F (by omega) ((by rw [show x21.toInt.toNat = j.toInt.toNat + 1 by omega]; exact s2)) (by omega)
        · have c18 : ¬ (x16.toInt ≠ x17.toInt) := c18
          refine gw_ld rfl rfl ?_
          refine z_C (m := 1) rfl rfl (fun x22 ex22 => ?_)
          refine z_2 rfl (fun x23 ex23 => ?_)
          have rx23 := z_rng x23
          refine z_C (m := -306674912) rfl rfl (fun x24 ex24 => ?_)
          refine z_2 rfl (fun x25 ex25 => ?_)
          have rx25 := z_rng x25
          refine z_go ?_
          refine gw_skip _ ?_
          have s1 := bt_y ex15 ex16 (by omega) ex22 ex23 ex24 ex25
          have s2 : x25.toBitVec = btN (crV (bvM (ez_I h 72)) i.toInt.toNat ^^^ bvM (ez_I h 72) i.toInt.toNat) (j.toInt.toNat + 1) := by
            rw [s1, A_in]
            rfl
          refine gw_st rfl rfl rfl ?_
          show ez_gw _ _ _ _ _ _ _ _ [some (.ref 71), some (.int x25), some (.int i), some (.int j)] _ _ _
          refine z_inc rfl (by rw [show (1 : Int32).toInt = 1 from rfl]; omega) (fun x26 ex26 => ?_)
          rw [show (1 : Int32).toInt = 1 from rfl] at ex26
          show ez_gw _ _ _ _ _ _ _ _ [some (.ref 71), some (.int x25), some (.int i), some (.int x26)] _ _ _
          refine z_go ?_
          exact ih.2 h2 x25 i x26 F (by omega) ((by rw [show x26.toInt.toNat = j.toInt.toNat + 1 by omega]; exact s2)) (by omega)
set_option maxRecDepth 4000 in
set_option maxHeartbeats 2000000 in
theorem m_crcF {E : Nat → Nat × (Nat → Int32)} {d : Nat} {Q : ez_Q} {h : ez_H}  (S : zSh h) (hz : 0 ≤ (ez_I h 71 6).toInt ∧ (ez_I h 71 6).toInt ≤ 6000) (K : ∀ h2 (x : Int32), zW (fun q k => q = 71 ∧ k = 0) (fun _ => False) (fun _ => False) h h2 → x.toBitVec = crV (bvM (ez_I h 72)) (ez_I h 71 6).toInt.toNat ^^^ (-1 : Int32).toBitVec → Q (.inl (some (.int x))) h2) : pw E d 30 0 [some (.ref 71), none, none, none] [] h Q := by
  have F := zW_refl (fun q k => q = 71 ∧ k = 0) (fun _ => False) (fun _ => False) h
  apply ez_Wp_in
  show ez_gw _ _ _ _ _ _ (cz_30) _ _ _ _ _
  refine gw_skip _ ?_
  have r1 := z_rng (ez_I h 71 0)
  refine gw_ld rfl rfl ?_
  refine z_C (m := 0) rfl rfl (fun x2 ex2 => ?_)
  refine z_pI (zT S (by decide) rfl) (fun h3 e4 => ?_)
  have S5 := zSh_set S e4
  have F6 := zW_setF F e4 (by decide)
  have f7 : ez_I h3 71 0 = x2 := zI_eq e4
  refine z_C (m := -1) rfl rfl (fun x8 ex8 => ?_)
  refine gw_st rfl rfl rfl ?_
  show ez_gw _ _ _ _ _ _ _ _ [some (.ref 71), some (.int x8), none, none] _ _ _
  refine z_C (m := 0) rfl rfl (fun x9 ex9 => ?_)
  refine gw_st rfl rfl rfl ?_
  show ez_gw _ _ _ _ _ _ _ _ [some (.ref 71), some (.int x8), some (.int x9), none] _ _ _
  have t10 := congrArg Int32.toInt (f7)
  exact ez_Wp_at ((m_crcF_L0  S hz K (((100 * (10000 - x9.toInt))).toNat + 1)).1 h3 x8 x9 (none) F6 (by omega) ((by rw [m1_is ex8, show x9.toInt.toNat = 0 by omega]; rfl)) (by omega)) rfl
theorem an_crc {h : ez_H} {x y : Int32} (R : RR h) (k1 : x.toBitVec = crV (bvC (ez_I h 3)) (ez_I h 2 1).toInt.toNat ^^^ (-1 : Int32).toBitVec) (j1 : y.toBitVec = crV (bvM (ez_I h 72)) (ez_I h 71 6).toInt.toNat ^^^ (-1 : Int32).toBitVec) : x.toInt = y.toInt := by
  rw [bv_eq R.2.2.2.2.1, ← j1] at k1
  rw [Int32.toBitVec.inj k1]
