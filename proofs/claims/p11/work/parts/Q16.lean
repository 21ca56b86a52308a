/-! bits read by both -/
theorem n_setb {z b sh w x : Int32} {j : Nat} (hz : 0 ≤ z.toInt ∧ z.toInt < 2 ^ j) (hb : b.toInt = 0 ∨ b.toInt = 1) (hs : sh.toInt = j) (hj : j < 16) (gw : w = b <<< (sh &&& 31)) (gx : x = z ||| w) : x.toInt = z.toInt + b.toInt * 2 ^ j := by
  have p1 : (2 : Int) ^ j ≤ 2 ^ 15 := z_pow_le (by omega)
  have p2 := mulB (x := b.toInt) (y := 2 ^ j) (a := 1) (b := 32768) (c := 32768) ⟨by omega, by omega⟩ ⟨by omega, by omega⟩ (by decide)
  have hw : w.toInt = b.toInt * 2 ^ j := n_shl (n := j) hs (by omega) (by omega) (by omega) gw
  have hx : x.toInt = w.toInt + z.toInt := n_or (n := j) (a := b.toInt) hw (by omega) hz (by omega) (by rw [gx, Int32.or_comm])
  omega
theorem vB_s {T : Nat → Int} {p i m : Nat} {v b x : Int} (hv : v = (vB T p i : Nat)) (hb : b = (bitT T (p + i) : Nat)) (hx : x = v + b * 2 ^ i) (hm : m = i + 1) : x = (vB T p m : Nat) := by
  subst hm
  show x = ((vB T p i + bitT T (p + i) * 2 ^ i : Nat) : Int)
  rw [hx, hv, hb, n_pow, Int.natCast_add, Int.natCast_mul]
theorem bit_C {f : Nat → Int32} {z : Int32} {p b : Int} {q : Nat} (ez : f (p / 8).toNat = z) (hz : 0 ≤ z.toInt) (hp : 0 ≤ p) (hq : q = p.toNat) (hb : b = z.toInt / 2 ^ (p % 8).toNat % 2) : b = (bitT (tI f) q : Nat) := by
  subst hq
  rw [hb, n_bit hz]
  unfold bitT tI
  rw [show p.toNat / 8 = (p / 8).toNat by omega, ez, show p.toNat % 8 = (p % 8).toNat by omega]
theorem bit_M {f : Nat → Int32} {z : Int32} {p b : Int} {q : Nat} (ez : f (p / 8).toNat = z) (hp : 0 ≤ p) (hq : q = p.toNat) (hb : b = z.toInt / 2 ^ (p % 8).toNat % 2) : b = (bitT (tB f) q : Nat) := by
  subst hq
  unfold bitT tB
  rw [show p.toNat / 8 = (p / 8).toNat by omega, ez, show p.toNat % 8 = (p % 8).toNat by omega, ← n_bit (by omega), hb]
  rcases (by omega : (p % 8).toNat = 0 ∨ (p % 8).toNat = 1 ∨ (p % 8).toNat = 2 ∨ (p % 8).toNat = 3 ∨ (p % 8).toNat = 4 ∨ (p % 8).toNat = 5 ∨ (p % 8).toNat = 6 ∨ (p % 8).toNat = 7) with q | q | q | q | q | q | q | q <;> rw [q] <;> omega
/-! PRINTED by wip/pack: reading bits: both -/
set_option maxRecDepth 4000 in
set_option maxHeartbeats 2000000 in
theorem c_fail {E : Nat → Nat × (Nat → Int32)} {d : Nat} {Q : ez_Q} {h : ez_H} {i : Int32} (S : zSh h) (hM : zMem h) (hp : 0 ≤ (ez_I h 69 6).toInt ∧ (ez_I h 69 6).toInt ≤ 50000) (Ke : ∀ h2, zW (fun q k => q = 69 ∧ k = 2 ∨ q = 69 ∧ k = 3 ∨ q = 69 ∧ k = 6) (fun _ => False) (fun _ => False) h h2 → Q (.inr 2) (ez_bump h2)) (K : True) : pw E d 143 0 [some (.ref 69), some (.int i)] [] h Q := by
  have gi := z_rng i
  have F := zW_refl (fun q k => q = 69 ∧ k = 2 ∨ q = 69 ∧ k = 3 ∨ q = 69 ∧ k = 6) (fun _ => False) (fun _ => False) h
  apply ez_Wp_in
  show ez_gw _ _ _ _ _ _ (cz_143) _ _ _ _ _
  refine gw_skip _ ?_
  have r1 := z_rng (ez_I h 69 2)
  have r2 := z_rng (ez_I h 69 3)
  have r3 := z_rng (ez_I h 69 6)
  refine gw_ld rfl rfl ?_
  refine gw_ld rfl rfl ?_
  refine z_pI (zT S (by decide) rfl) (fun h4 e5 => ?_)
  have S6 := zSh_set S e5
  have F7 := zW_setF F e5 (by omega)
  have f8 : ez_I h4 69 2 = i := zI_eq e5
  have f9 : ez_I h4 69 3 = (ez_I h 69 3) := (zI_ne e5 (by decide)).trans (rfl)
  have f10 : ez_I h4 69 6 = (ez_I h 69 6) := (zI_ne e5 (by decide)).trans (rfl)
  refine gw_ld rfl rfl ?_
  refine gw_ld rfl rfl ?_
  refine z_gI2 (by decide) (zT S6 (by decide) rfl) (f10) ?_
  refine z_C (m := 7) rfl rfl (fun x11 ex11 => ?_)
  refine z_add (by omega) (fun x12 ex12 => ?_)
  refine z_C (m := 3) rfl rfl (fun x13 ex13 => ?_)
  refine z_2 rfl (fun x14 ex14 => ?_)
  have rx14 := z_rng x14
  have vx14 := n_shr (n := 3) (by omega) (by decide) ex14
  refine z_pI (zT S6 (by decide) rfl) (fun h15 e16 => ?_)
  have S17 := zSh_set S6 e16
  have F18 := zW_setF F7 e16 (by omega)
  have f19 : ez_I h15 69 2 = i := (zI_ne e16 (by decide)).trans (f8)
  have f20 : ez_I h15 69 3 = x14 := zI_eq e16
  have f21 : ez_I h15 69 6 = (ez_I h 69 6) := (zI_ne e16 (by decide)).trans (f10)
  have t22 := congrArg Int32.toInt (f19)
  have t23 := congrArg Int32.toInt (f20)
  have t24 := congrArg Int32.toInt (f21)
  refine z_th (zMw F18 hM) ?_
  exact Ke _ F18
set_option maxRecDepth 4000 in
set_option maxHeartbeats 2000000 in
theorem c_tb_L0 {E : Nat → Nat × (Nat → Int32)} {d : Nat} {Q : ez_Q} {h : ez_H} {n : Int32} (S : zSh h) (hM : zMem h) (hz : 0 ≤ (ez_I h 2 1).toInt ∧ (ez_I h 2 1).toInt ≤ 6000) (hb : aR (ez_I h 3) (ez_I h 2 1).toInt.toNat 0 255) (hp : 0 ≤ (ez_I h 69 6).toInt ∧ (ez_I h 69 6).toInt ≤ 8 * (ez_I h 2 1).toInt) (hn : 0 ≤ n.toInt ∧ n.toInt ≤ 16) (Ke : 8 * (ez_I h 2 1).toInt < (ez_I h 69 6).toInt + n.toInt → ∀ h2, zW (fun q k => q = 69 ∧ k = 2 ∨ q = 69 ∧ k = 3 ∨ q = 69 ∧ k = 6) (fun _ => False) (fun _ => False) h h2 → Q (.inr 2) (ez_bump h2)) (K : ∀ h2 (x : Int32), zW (fun q k => q = 69 ∧ k = 2 ∨ q = 69 ∧ k = 3 ∨ q = 69 ∧ k = 6) (fun _ => False) (fun _ => False) h h2 → (ez_I h 69 6).toInt + n.toInt ≤ 8 * (ez_I h 2 1).toInt → x.toInt = (vB (tI (ez_I h 3)) (ez_I h 69 6).toInt.toNat n.toInt.toNat : Nat) → (ez_I h2 69 6).toInt = (ez_I h 69 6).toInt + n.toInt → Q (.inl (some (.int x))) h2) : ∀ N : Nat, (∀ (h2 : ez_H) (v : Int32) (i : Int32) (l5 : Option Value) , zW (fun q k => q = 69 ∧ k = 2 ∨ q = 69 ∧ k = 3 ∨ q = 69 ∧ k = 6) (fun _ => False) (fun _ => False) h h2 → (0 ≤ i.toInt ∧ i.toInt ≤ n.toInt ∧ (ez_I h2 69 6).toInt = (ez_I h 69 6).toInt + i.toInt ∧ (ez_I h2 69 6).toInt ≤ 8 * (ez_I h 2 1).toInt ∧ v.toInt = (vB (tI (ez_I h 3)) (ez_I h 69 6).toInt.toNat i.toInt.toNat : Nat)) → (100 - i.toInt) < (N : Int) → pw E (d + 1) 142 5 [some (.ref 69), some (.ref 2), some (.int n), some (.int v), some (.int i), l5] [] h2 Q) := by
  intro N
  induction N with
  | zero => exact fun h2 v i l5  F hinv  hm => absurd hm (by have w_v := z_rng v; have w_i := z_rng i; have gn := z_rng n; omega)
  | succ N ih =>
    refine fun h2 v i l5  F hinv  hm => ?_
    · skip
      have w_v := z_rng v
      have w_i := z_rng i
      have gn := z_rng n
      have S2 := zW_sh F S
      have hvl := vB_lt (tI (ez_I h 3)) (ez_I h 69 6).toInt.toNat i.toInt.toNat
      have hvp := n_pow i.toInt.toNat
      apply ez_Wp_in
      show ez_gw _ _ _ _ _ _ (cz_142) _ _ _ _ _
      refine gw_skip _ ?_
      have r1 := z_rng (ez_I h2 69 2)
      have r2 := z_rng (ez_I h2 69 3)
      have r3 := z_rng (ez_I h2 69 6)
      refine gw_ld rfl rfl ?_
      refine gw_ld rfl rfl ?_
      refine z_b2 (fun c4 => ?_) (fun c4 => ?_)
      · have c4 : n.toInt ≤ i.toInt := c4
        refine gw_skip _ ?_
        refine gw_ld rfl rfl ?_
        refine z_ri ?_
        have he : n.toInt.toNat = i.toInt.toNat := by omega
        rw [he] at K
        exact K _ _ F (by omega) (by omega) (by omega)
      · have c4 : ¬ (n.toInt ≤ i.toInt) := c4
        refine gw_ld rfl rfl ?_
        refine z_gI2 (by decide) (zT S2 (by decide) rfl) (rfl) ?_
        refine z_C (m := 3) rfl rfl (fun x5 ex5 => ?_)
        refine z_2 rfl (fun x6 ex6 => ?_)
        have rx6 := z_rng x6
        have vx6 := n_shr (n := 3) (by omega) (by decide) ex6
        rw [show (2 : Int) ^ 3 = 8 from rfl] at vx6
        refine gw_st rfl rfl rfl ?_
        show ez_gw _ _ _ _ _ _ _ _ [some (.ref 69), some (.ref 2), some (.int n), some (.int v), some (.int i), some (.int x6)] _ _ _
        refine gw_ld rfl rfl ?_
        refine gw_ld rfl rfl ?_
        refine z_cl rfl rfl rfl rfl rfl rfl rfl rfl rfl rfl rfl (zT S2 (by decide) rfl) ?_
        refine c_has (p := 2) (i := x6) S2 (by decide) (fun x7 k8 k9 k10 => ?_)
        rw [(show ez_I h2 2 1 = ez_I h 2 1 from zW_f F (by decide) (by decide))] at k9 k10
        have rx7 := z_rng x7
        refine z_b1 (fun c11 => ?_) (fun c11 => ?_)
        · have c11 : x7.toInt ≠ 0 := c11
          refine gw_skip _ ?_
          refine gw_ld rfl rfl ?_
          refine gw_ld rfl rfl ?_
          refine z_gR (q := 3) (zT S2 (by decide) rfl) (zRf S2 (by decide) (by decide) rfl) (by decide) ?_
          refine gw_ld rfl rfl ?_
          refine z_iaV (n := 6100) (zT S2 (by decide) rfl) (zN S2 (by decide) rfl) (by omega) (zW_f F (fun c => c) (by omega)) ?_
          generalize ex12 : ez_I h 3 x6.toInt.toNat = x12
          have rx12 := z_rng x12
          have yx12 := hb x6.toInt.toNat (by omega)
          rw [ex12] at yx12
          refine gw_ld rfl rfl ?_
          refine z_gI2 (by decide) (zT S2 (by decide) rfl) (rfl) ?_
          refine z_C (m := 7) rfl rfl (fun x13 ex13 => ?_)
          refine z_and (fun x14 ex14 ux14 wx14 => ?_)
          have rx14 := z_rng x14
          replace ux14 := ux14 (by omega)
          clear wx14
          have vx14 := n_mask (k := 3) (by decide) (by omega) ex14
          rw [show (2 : Int) ^ 3 = 8 from rfl] at vx14
          refine z_2 rfl (fun x15 ex15 => ?_)
          have rx15 := z_rng x15
          have vx15 := n_shr (n := ((ez_I h2 69 6).toInt % 8).toNat) (by omega) (by omega) ex15
          refine z_C (m := 1) rfl rfl (fun x16 ex16 => ?_)
          refine z_and (fun x17 ex17 ux17 wx17 => ?_)
          have rx17 := z_rng x17
          replace ux17 := ux17 (by omega)
          clear wx17
          have vx17 := n_mask (k := 1) (by decide) (by omega) ex17
          rw [show (2 : Int) ^ 1 = 2 from rfl, vx15] at vx17
          refine gw_ld rfl rfl ?_
          refine z_2 rfl (fun x18 ex18 => ?_)
          have rx18 := z_rng x18
          have eS := ex18
          refine z_2 rfl (fun x19 ex19 => ?_)
          have rx19 := z_rng x19
          have hbt : x17.toInt = (bitT (tI (ez_I h 3)) ((ez_I h 69 6).toInt.toNat + i.toInt.toNat) : Nat) := bit_C (p := (ez_I h2 69 6).toInt) (z := x12) (by rw [show ((ez_I h2 69 6).toInt / 8).toNat = x6.toInt.toNat by omega]; exact ex12) (by omega) (by omega) (by omega) (by omega)
          have hor := n_setb (z := v) (b := x17) (j := i.toInt.toNat) (by omega) (by omega) (by omega) (by omega) eS ex19
          refine gw_st rfl rfl rfl ?_
          show ez_gw _ _ _ _ _ _ _ _ [some (.ref 69), some (.ref 2), some (.int n), some (.int x19), some (.int i), some (.int x6)] _ _ _
          refine gw_ld rfl rfl ?_
          refine gw_op rfl ?_
          refine z_gI2 (by decide) (zT S2 (by decide) rfl) (rfl) ?_
          refine z_C (m := 1) rfl rfl (fun x20 ex20 => ?_)
          refine z_add (by omega) (fun x21 ex21 => ?_)
          refine z_pI (zT S2 (by decide) rfl) (fun h22 e23 => ?_)
          have S24 := zSh_set S2 e23
          have F25 := zW_setF F e23 (by omega)
          have f26 : ez_I h22 69 2 = (ez_I h2 69 2) := (zI_ne e23 (by decide)).trans (rfl)
          have f27 : ez_I h22 69 3 = (ez_I h2 69 3) := (zI_ne e23 (by decide)).trans (rfl)
          have f28 : ez_I h22 69 6 = x21 := zI_eq e23
          refine z_inc rfl (by rw [show (1 : Int32).toInt = 1 from rfl]; omega) (fun x29 ex29 => ?_)
          rw [show (1 : Int32).toInt = 1 from rfl] at ex29
          show ez_gw _ _ _ _ _ _ _ _ [some (.ref 69), some (.ref 2), some (.int n), some (.int x19), some (.int x29), some (.int x6)] _ _ _
          refine z_go ?_
          have t30 := congrArg Int32.toInt (f26)
          have t31 := congrArg Int32.toInt (f27)
          have t32 := congrArg Int32.toInt (f28)
          exact ih h22 x19 x29 (some (.int x6)) F25 (⟨by omega, by omega, by omega, by omega, vB_s (i := i.toInt.toNat) (b := x17.toInt) (v := v.toInt) (by omega) hbt hor (by omega)⟩)  (by omega)
        · have c11 : ¬ (x7.toInt ≠ 0) := c11
          refine gw_ld rfl rfl ?_
          refine z_C (m := 1) rfl rfl (fun x33 ex33 => ?_)
          refine z_cl rfl rfl rfl rfl rfl rfl rfl rfl rfl rfl rfl (zT S2 (by decide) rfl) ?_
          exact c_fail (i := x33) S2 (zMw F hM) (by omega) (fun hh FF => Ke (by omega) hh (zW_tr F FF)) trivial
set_option maxRecDepth 4000 in
set_option maxHeartbeats 2000000 in
theorem c_tb {E : Nat → Nat × (Nat → Int32)} {d : Nat} {Q : ez_Q} {h : ez_H} {n : Int32} (S : zSh h) (hM : zMem h) (hz : 0 ≤ (ez_I h 2 1).toInt ∧ (ez_I h 2 1).toInt ≤ 6000) (hb : aR (ez_I h 3) (ez_I h 2 1).toInt.toNat 0 255) (hp : 0 ≤ (ez_I h 69 6).toInt ∧ (ez_I h 69 6).toInt ≤ 8 * (ez_I h 2 1).toInt) (hn : 0 ≤ n.toInt ∧ n.toInt ≤ 16) (Ke : 8 * (ez_I h 2 1).toInt < (ez_I h 69 6).toInt + n.toInt → ∀ h2, zW (fun q k => q = 69 ∧ k = 2 ∨ q = 69 ∧ k = 3 ∨ q = 69 ∧ k = 6) (fun _ => False) (fun _ => False) h h2 → Q (.inr 2) (ez_bump h2)) (K : ∀ h2 (x : Int32), zW (fun q k => q = 69 ∧ k = 2 ∨ q = 69 ∧ k = 3 ∨ q = 69 ∧ k = 6) (fun _ => False) (fun _ => False) h h2 → (ez_I h 69 6).toInt + n.toInt ≤ 8 * (ez_I h 2 1).toInt → x.toInt = (vB (tI (ez_I h 3)) (ez_I h 69 6).toInt.toNat n.toInt.toNat : Nat) → (ez_I h2 69 6).toInt = (ez_I h 69 6).toInt + n.toInt → Q (.inl (some (.int x))) h2) : pw E (d + 1) 142 0 [some (.ref 69), some (.ref 2), some (.int n), none, none, none] [] h Q := by
  have gn := z_rng n
  have F := zW_refl (fun q k => q = 69 ∧ k = 2 ∨ q = 69 ∧ k = 3 ∨ q = 69 ∧ k = 6) (fun _ => False) (fun _ => False) h
  apply ez_Wp_in
  show ez_gw _ _ _ _ _ _ (cz_142) _ _ _ _ _
  refine gw_skip _ ?_
  have r1 := z_rng (ez_I h 69 2)
  have r2 := z_rng (ez_I h 69 3)
  have r3 := z_rng (ez_I h 69 6)
  refine z_C (m := 0) rfl rfl (fun x4 ex4 => ?_)
  refine gw_st rfl rfl rfl ?_
  show ez_gw _ _ _ _ _ _ _ _ [some (.ref 69), some (.ref 2), some (.int n), some (.int x4), none, none] _ _ _
  refine z_C (m := 0) rfl rfl (fun x5 ex5 => ?_)
  refine gw_st rfl rfl rfl ?_
  show ez_gw _ _ _ _ _ _ _ _ [some (.ref 69), some (.ref 2), some (.int n), some (.int x4), some (.int x5), none] _ _ _
  exact ez_Wp_at ((c_tb_L0 (n := n) S hM hz hb hp hn Ke K (((100 - x5.toInt)).toNat + 1)) h x4 x5 (none) F (⟨by omega, by omega, by omega, by omega, by rw [show x5.toInt.toNat = 0 by omega]; show _ = ((0 : Nat) : Int); omega⟩)  (by omega)) rfl
set_option maxRecDepth 4000 in
set_option maxHeartbeats 2000000 in
theorem d_tb_L0 {E : Nat → Nat × (Nat → Int32)} {d : Nat} {Q : ez_Q} {h : ez_H} {n : Int32} (S : zSh h) (hz : 0 ≤ (ez_I h 71 6).toInt ∧ (ez_I h 71 6).toInt ≤ 6000) (hp : 0 ≤ (ez_I h 71 59).toInt ∧ (ez_I h 71 59).toInt ≤ 8 * (ez_I h 71 6).toInt) (hf : 0 ≤ (ez_I h 71 61).toInt) (hn : 0 ≤ n.toInt ∧ n.toInt ≤ 16) (K : ∀ h2 (x : Int32), zW (fun q k => q = 71 ∧ k = 59 ∨ q = 71 ∧ k = 61) (fun _ => False) (fun _ => False) h h2 → ((ez_I h 71 61).toInt = 0 → (ez_I h 71 59).toInt + n.toInt ≤ 8 * (ez_I h 71 6).toInt → x.toInt = (vB (tB (ez_I h 72)) (ez_I h 71 59).toInt.toNat n.toInt.toNat : Nat) ∧ (ez_I h2 71 59).toInt = (ez_I h 71 59).toInt + n.toInt ∧ (ez_I h2 71 61).toInt = 0) → ((ez_I h 71 61).toInt = 0 → 8 * (ez_I h 71 6).toInt < (ez_I h 71 59).toInt + n.toInt → (ez_I h2 71 61).toInt = 1 ∧ 0 ≤ (ez_I h2 71 59).toInt ∧ (ez_I h2 71 59).toInt ≤ 8 * (ez_I h 71 6).toInt) → ((ez_I h 71 61).toInt ≠ 0 → (ez_I h2 71 61).toInt = (ez_I h 71 61).toInt ∧ (ez_I h2 71 59).toInt = (ez_I h 71 59).toInt) → Q (.inl (some (.int x))) h2) : ∀ N : Nat, (∀ (h2 : ez_H) (v : Int32) (i : Int32) , zW (fun q k => q = 71 ∧ k = 59 ∨ q = 71 ∧ k = 61) (fun _ => False) (fun _ => False) h h2 → (0 ≤ i.toInt ∧ i.toInt ≤ n.toInt ∧ (((ez_I h 71 61).toInt = 0 ∧ (ez_I h2 71 61).toInt = 0 ∧ (ez_I h2 71 59).toInt = (ez_I h 71 59).toInt + i.toInt ∧ (ez_I h2 71 59).toInt ≤ 8 * (ez_I h 71 6).toInt ∧ v.toInt = (vB (tB (ez_I h 72)) (ez_I h 71 59).toInt.toNat i.toInt.toNat : Nat)) ∨ ((ez_I h 71 61).toInt = 0 ∧ (ez_I h2 71 61).toInt = 1 ∧ (ez_I h2 71 59).toInt = 8 * (ez_I h 71 6).toInt ∧ 8 * (ez_I h 71 6).toInt < (ez_I h 71 59).toInt + n.toInt) ∨ ((ez_I h 71 61).toInt ≠ 0 ∧ (ez_I h2 71 61).toInt = (ez_I h 71 61).toInt ∧ (ez_I h2 71 59).toInt = (ez_I h 71 59).toInt))) → (100 - i.toInt) < (N : Int) → pw E d 51 4 [some (.ref 71), some (.int n), some (.int v), some (.int i)] [] h2 Q) := by
  intro N
  induction N with
  | zero => exact fun h2 v i  F hinv  hm => absurd hm (by have w_v := z_rng v; have w_i := z_rng i; have gn := z_rng n; omega)
  | succ N ih =>
    refine fun h2 v i  F hinv  hm => ?_
    · skip
      have w_v := z_rng v
      have w_i := z_rng i
      have gn := z_rng n
      have S2 := zW_sh F S
      have hvl := vB_lt (tB (ez_I h 72)) (ez_I h 71 59).toInt.toNat i.toInt.toNat
      have hvp := n_pow i.toInt.toNat
      apply ez_Wp_in
      show ez_gw _ _ _ _ _ _ (cz_51) _ _ _ _ _
      refine gw_skip _ ?_
      have r1 := z_rng (ez_I h2 71 59)
      have r2 := z_rng (ez_I h2 71 61)
      refine gw_ld rfl rfl ?_
      refine gw_ld rfl rfl ?_
      refine z_b2 (fun c3 => ?_) (fun c3 => ?_)
      · have c3 : n.toInt ≤ i.toInt := c3
        refine gw_skip _ ?_
        refine gw_ld rfl rfl ?_
        refine z_ri ?_
        by_cases hq : (ez_I h2 71 61).toInt = 0
        · exact K _ _ F (fun _ _ => ⟨(by rw [show n.toInt.toNat = i.toInt.toNat by omega]; omega), by omega, by omega⟩) (fun q => by omega) (fun q => by omega)
        · exact K _ _ F (fun q r => by exfalso; omega) (fun q => by omega) (fun q => by omega)
      · have c3 : ¬ (n.toInt ≤ i.toInt) := c3
        refine gw_ld rfl rfl ?_
        refine z_gI2 (by decide) (zT S2 (by decide) rfl) (rfl) ?_
        refine z_b1 (fun c4 => ?_) (fun c4 => ?_)
        · have c4 : ((ez_I h2 71 61)).toInt ≠ 0 := c4
          refine gw_skip _ ?_
          refine gw_ld rfl rfl ?_
          refine z_ri ?_
          by_cases hq : (ez_I h2 71 61).toInt = 0
          · exact K _ _ F (fun _ _ => ⟨(by rw [show n.toInt.toNat = i.toInt.toNat by omega]; omega), by omega, by omega⟩) (fun q => by omega) (fun q => by omega)
          · exact K _ _ F (fun q r => by exfalso; omega) (fun q => by omega) (fun q => by omega)
        · have c4 : ¬ (((ez_I h2 71 61)).toInt ≠ 0) := c4
          refine gw_ld rfl rfl ?_
          refine z_gI2 (by decide) (zT S2 (by decide) rfl) (rfl) ?_
          refine z_C (m := 8) rfl rfl (fun x5 ex5 => ?_)
          refine z_dvP (c := 8) ex5 (by decide) (by omega) (fun x6 ex6 => ?_)
          refine gw_ld rfl rfl ?_
          have r7 := z_rng (ez_I h 71 6)
          refine z_gI2 (by decide) (zT S2 (by decide) rfl) (zW_f F (fun c => c) (by decide)) ?_
          refine z_b2 (fun c8 => ?_) (fun c8 => ?_)
          · have c8 : x6.toInt < ((ez_I h 71 6)).toInt := c8
            refine gw_skip _ ?_
            refine gw_ld rfl rfl ?_
            refine gw_ld rfl rfl ?_
            refine z_gR (q := 72) (zT S2 (by decide) rfl) (zRf S2 (by decide) (by decide) rfl) (by decide) ?_
            refine gw_ld rfl rfl ?_
            refine z_gI2 (by decide) (zT S2 (by decide) rfl) (rfl) ?_
            refine z_C (m := 8) rfl rfl (fun x9 ex9 => ?_)
            refine z_dvP (c := 8) ex9 (by decide) (by omega) (fun x10 ex10 => ?_)
            refine z_baV (n := 6000) (zT S2 (by decide) rfl) (zN S2 (by decide) rfl) (by omega) (zW_f F (fun c => c) (by omega)) ?_
            generalize ex11 : ez_I h 72 x10.toInt.toNat = x11
            have rx11 := z_rng x11
            refine gw_ld rfl rfl ?_
            refine z_gI2 (by decide) (zT S2 (by decide) rfl) (rfl) ?_
            refine z_C (m := 8) rfl rfl (fun x12 ex12 => ?_)
            refine z_rmP (c := 8) ex12 (by decide) (by omega) (fun x13 ex13 => ?_)
            refine z_2 rfl (fun x14 ex14 => ?_)
            have rx14 := z_rng x14
            have vx14 := n_shr (n := ((ez_I h2 71 59).toInt % 8).toNat) (by omega) (by omega) ex14
            refine z_C (m := 1) rfl rfl (fun x15 ex15 => ?_)
            refine z_and (fun x16 ex16 ux16 wx16 => ?_)
            have rx16 := z_rng x16
            replace ux16 := ux16 (by omega)
            clear wx16
            have vx16 := n_mask (k := 1) (by decide) (by omega) ex16
            rw [show (2 : Int) ^ 1 = 2 from rfl, vx14] at vx16
            refine gw_ld rfl rfl ?_
            refine z_2 rfl (fun x17 ex17 => ?_)
            have rx17 := z_rng x17
            have eS := ex17
            refine z_2 rfl (fun x18 ex18 => ?_)
            have rx18 := z_rng x18
            have hbt : x16.toInt = (bitT (tB (ez_I h 72)) ((ez_I h 71 59).toInt.toNat + i.toInt.toNat) : Nat) := bit_M (p := (ez_I h2 71 59).toInt) (z := x11) (by rw [show ((ez_I h2 71 59).toInt / 8).toNat = x10.toInt.toNat by omega]; exact ex11) (by omega) (by omega) (by omega)
            have hor := n_setb (z := v) (b := x16) (j := i.toInt.toNat) (by omega) (by omega) (by omega) (by omega) eS ex18
            refine gw_st rfl rfl rfl ?_
            show ez_gw _ _ _ _ _ _ _ _ [some (.ref 71), some (.int n), some (.int x18), some (.int i)] _ _ _
            refine gw_ld rfl rfl ?_
            refine gw_op rfl ?_
            refine z_gI2 (by decide) (zT S2 (by decide) rfl) (rfl) ?_
            refine gw_ld rfl rfl ?_
            refine z_gI2 (by decide) (zT S2 (by decide) rfl) (rfl) ?_
            refine z_b1 (fun c19 => ?_) (fun c19 => ?_)
            · have c19 : ((ez_I h2 71 61)).toInt ≠ 0 := c19
              exfalso; omega
            · have c19 : ¬ (((ez_I h2 71 61)).toInt ≠ 0) := c19
              refine z_C (m := 1) rfl rfl (fun x20 ex20 => ?_)
              refine z_go ?_
              refine gw_skip _ ?_
              refine z_add (by omega) (fun x21 ex21 => ?_)
              refine z_pI (zT S2 (by decide) rfl) (fun h22 e23 => ?_)
              have S24 := zSh_set S2 e23
              have F25 := zW_setF F e23 (by omega)
              have f26 : ez_I h22 71 59 = x21 := zI_eq e23
              have f27 : ez_I h22 71 61 = (ez_I h2 71 61) := (zI_ne e23 (by decide)).trans (rfl)
              refine z_inc rfl (by rw [show (1 : Int32).toInt = 1 from rfl]; omega) (fun x28 ex28 => ?_)
              rw [show (1 : Int32).toInt = 1 from rfl] at ex28
              show ez_gw _ _ _ _ _ _ _ _ [some (.ref 71), some (.int n), some (.int x18), some (.int x28)] _ _ _
              refine z_go ?_
              have t29 := congrArg Int32.toInt (f26)
              have t30 := congrArg Int32.toInt (f27)
              exact ih h22 x18 x28 F25 (⟨by omega, by omega, .inl ⟨by omega, by omega, by omega, by omega, vB_s (i := i.toInt.toNat) (b := x16.toInt) (v := v.toInt) (by omega) hbt hor (by omega)⟩⟩)  (by omega)
          · have c8 : ¬ (x6.toInt < ((ez_I h 71 6)).toInt) := c8
            refine gw_ld rfl rfl ?_
            refine z_C (m := 1) rfl rfl (fun x31 ex31 => ?_)
            refine z_pI (zT S2 (by decide) rfl) (fun h32 e33 => ?_)
            have S34 := zSh_set S2 e33
            have F35 := zW_setF F e33 (by omega)
            have f36 : ez_I h32 71 59 = (ez_I h2 71 59) := (zI_ne e33 (by decide)).trans (rfl)
            have f37 : ez_I h32 71 61 = x31 := zI_eq e33
            refine z_go ?_
            refine gw_skip _ ?_
            refine gw_ld rfl rfl ?_
            refine gw_op rfl ?_
            refine z_gI2 (by decide) (zT S34 (by decide) rfl) (f36) ?_
            refine gw_ld rfl rfl ?_
            refine z_gI2 (by decide) (zT S34 (by decide) rfl) (f37) ?_
            refine z_b1 (fun c38 => ?_) (fun c38 => ?_)
            · have c38 : x31.toInt ≠ 0 := c38
              refine gw_skip _ ?_
              refine z_C (m := 0) rfl rfl (fun x39 ex39 => ?_)
              refine z_add (by omega) (fun x40 ex40 => ?_)
              refine z_pI (zT S34 (by decide) rfl) (fun h41 e42 => ?_)
              have S43 := zSh_set S34 e42
              have F44 := zW_setF F35 e42 (by omega)
              have f45 : ez_I h41 71 59 = x40 := zI_eq e42
              have f46 : ez_I h41 71 61 = x31 := (zI_ne e42 (by decide)).trans (f37)
              refine z_inc rfl (by rw [show (1 : Int32).toInt = 1 from rfl]; omega) (fun x47 ex47 => ?_)
              rw [show (1 : Int32).toInt = 1 from rfl] at ex47
              show ez_gw _ _ _ _ _ _ _ _ [some (.ref 71), some (.int n), some (.int v), some (.int x47)] _ _ _
              refine z_go ?_
              have t48 := congrArg Int32.toInt (f45)
              have t49 := congrArg Int32.toInt (f46)
              exact ih h41 v x47 F44 (⟨by omega, by omega, .inr (.inl (by omega))⟩)  (by omega)
            · have c38 : ¬ (x31.toInt ≠ 0) := c38
              exfalso; omega
set_option maxRecDepth 4000 in
set_option maxHeartbeats 2000000 in
theorem d_tb {E : Nat → Nat × (Nat → Int32)} {d : Nat} {Q : ez_Q} {h : ez_H} {n : Int32} (S : zSh h) (hz : 0 ≤ (ez_I h 71 6).toInt ∧ (ez_I h 71 6).toInt ≤ 6000) (hp : 0 ≤ (ez_I h 71 59).toInt ∧ (ez_I h 71 59).toInt ≤ 8 * (ez_I h 71 6).toInt) (hf : 0 ≤ (ez_I h 71 61).toInt) (hn : 0 ≤ n.toInt ∧ n.toInt ≤ 16) (K : ∀ h2 (x : Int32), zW (fun q k => q = 71 ∧ k = 59 ∨ q = 71 ∧ k = 61) (fun _ => False) (fun _ => False) h h2 → ((ez_I h 71 61).toInt = 0 → (ez_I h 71 59).toInt + n.toInt ≤ 8 * (ez_I h 71 6).toInt → x.toInt = (vB (tB (ez_I h 72)) (ez_I h 71 59).toInt.toNat n.toInt.toNat : Nat) ∧ (ez_I h2 71 59).toInt = (ez_I h 71 59).toInt + n.toInt ∧ (ez_I h2 71 61).toInt = 0) → ((ez_I h 71 61).toInt = 0 → 8 * (ez_I h 71 6).toInt < (ez_I h 71 59).toInt + n.toInt → (ez_I h2 71 61).toInt = 1 ∧ 0 ≤ (ez_I h2 71 59).toInt ∧ (ez_I h2 71 59).toInt ≤ 8 * (ez_I h 71 6).toInt) → ((ez_I h 71 61).toInt ≠ 0 → (ez_I h2 71 61).toInt = (ez_I h 71 61).toInt ∧ (ez_I h2 71 59).toInt = (ez_I h 71 59).toInt) → Q (.inl (some (.int x))) h2) : pw E d 51 0 [some (.ref 71), some (.int n), none, none] [] h Q := by
  have gn := z_rng n
  have F := zW_refl (fun q k => q = 71 ∧ k = 59 ∨ q = 71 ∧ k = 61) (fun _ => False) (fun _ => False) h
  apply ez_Wp_in
  show ez_gw _ _ _ _ _ _ (cz_51) _ _ _ _ _
  refine gw_skip _ ?_
  have r1 := z_rng (ez_I h 71 59)
  have r2 := z_rng (ez_I h 71 61)
  refine z_C (m := 0) rfl rfl (fun x3 ex3 => ?_)
  refine gw_st rfl rfl rfl ?_
  show ez_gw _ _ _ _ _ _ _ _ [some (.ref 71), some (.int n), some (.int x3), none] _ _ _
  refine z_C (m := 0) rfl rfl (fun x4 ex4 => ?_)
  refine gw_st rfl rfl rfl ?_
  show ez_gw _ _ _ _ _ _ _ _ [some (.ref 71), some (.int n), some (.int x3), some (.int x4)] _ _ _
  exact ez_Wp_at ((d_tb_L0 (n := n) S hz hp hf hn K (((100 - x4.toInt)).toNat + 1)) h x3 x4 F (⟨by omega, by omega, by have e0 : vB (tB (ez_I h 72)) (ez_I h 71 59).toInt.toNat 0 = 0 := rfl; rw [show x4.toInt.toNat = 0 by omega]; omega⟩)  (by omega)) rfl
