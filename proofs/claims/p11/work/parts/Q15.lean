/-! bytes of an int, the highest first -/
theorem n_ushrU {x y z : Int32} {n : Nat} (hy : y.toInt = n) (hn : n < 32) (hz : z = (x.toUInt32 >>> (y.toUInt32 &&& Int32.toUInt32 31)).toInt32) : ev_u z = ev_u x / 2 ^ n := by
  have ey : y = Int32.ofNat n := z_inj (by rw [hy]; exact (z_nI (n := n) (by omega)).symm)
  have e2 : ∀ m : Nat, m < 32 → (((Int32.ofNat m).toUInt32 &&& Int32.toUInt32 31).toBitVec % 32#32).toNat = m := by decide
  have e3 : z.toBitVec = x.toBitVec >>> n := by
    rw [hz, ey]
    show x.toBitVec >>> (((Int32.ofNat n).toUInt32 &&& Int32.toUInt32 31).toBitVec % 32#32).toNat = _
    rw [e2 n hn]
  show z.toBitVec.toNat = _
  rw [e3, BitVec.toNat_ushiftRight, Nat.shiftRight_eq_div_pow]
  rfl
def byN (a : Int32) (j : Nat) : Int := a.toInt / 2 ^ (24 - 8 * j) % 256
theorem byN_u {x y z m w : Int32} {j : Nat} (hj : j < 4) (hy : y.toInt = ((24 - 8 * j : Nat) : Int)) (gz : z = (x.toUInt32 >>> (y.toUInt32 &&& Int32.toUInt32 31)).toInt32) (hm : m.toInt = 255) (gw : w = z &&& m) : w.toInt = byN x j := by
  have a := n_ushrU hy (by omega) gz
  have b := n_mask (k := 8) (by decide) (by rw [hm]; rfl) gw
  have c : w.toInt = ((ev_u x / 2 ^ (24 - 8 * j) % 256 : Nat) : Int) := by
    rw [b, ← a]
    exact n_mod256 z
  rw [c]
  unfold byN
  have hx : x.toInt = (ev_u x : Int) ∨ x.toInt = (ev_u x : Int) - 4294967296 := by
    by_cases q : 0 ≤ x.toInt
    · exact .inl (z_u q).symm
    · have := z_u' (x := x) (by omega); omega
  rcases (by omega : j = 0 ∨ j = 1 ∨ j = 2 ∨ j = 3) with q | q | q | q <;> subst q
  · show _ = x.toInt / 2 ^ 24 % 256
    show ((ev_u x / 2 ^ 24 % 256 : Nat) : Int) = _
    omega
  · show ((ev_u x / 2 ^ 16 % 256 : Nat) : Int) = x.toInt / 2 ^ 16 % 256
    omega
  · show ((ev_u x / 2 ^ 8 % 256 : Nat) : Int) = x.toInt / 2 ^ 8 % 256
    omega
  · show ((ev_u x / 2 ^ 0 % 256 : Nat) : Int) = x.toInt / 2 ^ 0 % 256
    omega
theorem byN_s {x y z : Int32} {j : Nat} (hj : j < 4) (hy : y.toInt = ((24 - 8 * j : Nat) : Int)) (gz : z = x >>> (y &&& 31)) : z.toInt % 256 = byN x j := by
  rw [n_shr hy (by omega) gz]
  rfl
def rdC (f : Nat → Int32) (b : Nat) (a : Int32) (n : Nat) : Prop := ∀ j, j < n → (f (b + j)).toInt = byN a j
def rdM (f : Nat → Int32) (b : Nat) (a : Int32) (n : Nat) : Prop := ∀ j, j < n → (f (b + j)).toInt % 256 = byN a j
theorem rdC_s {h h2 : ez_H} {b n m x : Nat} {a y : Int32} (A : rdC (ez_I h 6) b a n) (e : h2 = ez_setI h 6 x y) (hx : x = b + n) (hy : y.toInt = byN a n) (hm : m = n + 1) : rdC (ez_I h2 6) b a m := fun j hj => by
  subst hm
  by_cases q : j = n
  · subst q; rw [← hx, zI_eq e]; exact hy
  · rw [zI_ne e (by omega)]; exact A j (by omega)
theorem rdM_s {h h2 : ez_H} {b n m x : Nat} {a y : Int32} (A : rdM (ez_I h 74) b a n) (e : h2 = ez_setI h 74 x y) (hx : x = b + n) (hy : y.toInt % 256 = byN a n) (hm : m = n + 1) : rdM (ez_I h2 74) b a m := fun j hj => by
  subst hm
  by_cases q : j = n
  · subst q; rw [← hx, zI_eq e]; exact hy
  · rw [zI_ne e (by omega)]; exact A j (by omega)
theorem rdM_o {h h2 : ez_H} {b n x : Nat} {a y : Int32} (A : rdM (ez_I h 74) b a n) (e : h2 = ez_setI h 74 x y) (hx : x < b ∨ b + n ≤ x) : rdM (ez_I h2 74) b a n := fun j hj => by
  rw [zI_ne e (by omega)]; exact A j hj
/-! PRINTED by wip/pack: feed and take of both -/
set_option maxRecDepth 4000 in
set_option maxHeartbeats 2000000 in
theorem x_putReadyF_L0 {E : Nat → Nat × (Nat → Int32)} {d : Nat} {Q : ez_Q} {h : ez_H} {f : Int32} {w : Int32} (S : zSh h) (hf : 0 ≤ f.toInt ∧ f.toInt ≤ 16) (K : ∀ h2, zW (fun _ _ => False) (fun q => q = 6) (fun _ => False) h h2 → rdC (ez_I h2 6) f.toInt.toNat w 4 → (∀ k, (k < f.toInt.toNat ∨ f.toInt.toNat + 4 ≤ k) → ez_I h2 6 k = ez_I h 6 k) → Q (.inl none) h2) : ∀ N : Nat, (∀ (h2 : ez_H) (i : Int32) , zW (fun _ _ => False) (fun q => q = 6) (fun _ => False) h h2 → (0 ≤ i.toInt ∧ i.toInt ≤ 4) → rdC (ez_I h2 6) f.toInt.toNat w i.toInt.toNat → (∀ k, (k < f.toInt.toNat ∨ f.toInt.toNat + 4 ≤ k) → ez_I h2 6 k = ez_I h 6 k) → (10 - i.toInt) < (N : Int) → pw E d 20 2 [some (.ref 1), some (.int f), some (.int w), some (.int i)] [] h2 Q) := by
  intro N
  induction N with
  | zero => exact fun h2 i  F hinv A_r A_o hm => absurd hm (by have w_i := z_rng i; have gf := z_rng f; have gw := z_rng w; omega)
  | succ N ih =>
    refine fun h2 i  F hinv A_r A_o hm => ?_
    · skip
      have w_i := z_rng i
      have gf := z_rng f
      have gw := z_rng w
      have S2 := zW_sh F S
      apply ez_Wp_in
      show ez_gw _ _ _ _ _ _ (cz_20) _ _ _ _ _
      refine gw_skip _ ?_
      refine gw_ld rfl rfl ?_
      refine z_C (m := 4) rfl rfl (fun x1 ex1 => ?_)
      refine z_b2 (fun c2 => ?_) (fun c2 => ?_)
      · have c2 : x1.toInt ≤ i.toInt := c2
        refine gw_skip _ ?_
        refine z_rv ?_
        have b1 := A_r
        rw [show i.toInt.toNat = 4 by omega] at b1
        exact K _ F b1 A_o
      · have c2 : ¬ (x1.toInt ≤ i.toInt) := c2
        refine gw_ld rfl rfl ?_
        refine gw_ld rfl rfl ?_
        refine z_add (by omega) (fun x3 ex3 => ?_)
        refine z_C (m := 20) rfl rfl (fun x4 ex4 => ?_)
        refine z_b2 (fun c5 => ?_) (fun c5 => ?_)
        · have c5 : x4.toInt ≤ x3.toInt := c5
          refine gw_skip _ ?_
          refine z_rv ?_
          have b1 := A_r
          rw [show i.toInt.toNat = 4 by omega] at b1
          exact K _ F b1 A_o
        · have c5 : ¬ (x4.toInt ≤ x3.toInt) := c5
          refine gw_ld rfl rfl ?_
          refine z_gR (q := 6) (zT S2 (by decide) rfl) (zRf S2 (by decide) (by decide) rfl) (by decide) ?_
          refine gw_ld rfl rfl ?_
          refine gw_ld rfl rfl ?_
          refine z_add (by omega) (fun x6 ex6 => ?_)
          refine gw_ld rfl rfl ?_
          refine z_C (m := 24) rfl rfl (fun x7 ex7 => ?_)
          refine z_C (m := 8) rfl rfl (fun x8 ex8 => ?_)
          refine gw_ld rfl rfl ?_
          refine z_mulL (c := 8) ex8 (by omega) (fun x9 ex9 => ?_)
          refine z_sub (by omega) (fun x10 ex10 => ?_)
          refine z_2 rfl (fun x11 ex11 => ?_)
          have rx11 := z_rng x11
          have eU := ex11
          refine z_C (m := 255) rfl rfl (fun x12 ex12 => ?_)
          refine z_and (fun x13 ex13 ux13 wx13 => ?_)
          have rx13 := z_rng x13
          replace ux13 := ux13 (by omega)
          clear wx13
          have vx13 := byN_u (j := i.toInt.toNat) (by omega) (by omega) eU (by omega) ex13
          refine z_is (n := 20) (zT S2 (by decide) rfl) (zN S2 (by decide) rfl) (by omega) (fun h14 e15 => ?_)
          have S16 := zSh_set S2 e15
          have F17 := zW_setA F e15 (by omega)
          have A18 : rdC (ez_I h14 6) f.toInt.toNat w (i.toInt.toNat + 1) := rdC_s A_r e15 (by omega) vx13 rfl
          have A19 : (∀ k, (k < f.toInt.toNat ∨ f.toInt.toNat + 4 ≤ k) → ez_I h14 6 k = ez_I h 6 k) := fun k hk => (zI_ne e15 (by omega)).trans (A_o k hk)
          refine z_inc rfl (by rw [show (1 : Int32).toInt = 1 from rfl]; omega) (fun x20 ex20 => ?_)
          rw [show (1 : Int32).toInt = 1 from rfl] at ex20
          show ez_gw _ _ _ _ _ _ _ _ [some (.ref 1), some (.int f), some (.int w), some (.int x20)] _ _ _
          refine z_go ?_
          exact ih h14 x20 F17 (by omega) ((by rw [show x20.toInt.toNat = i.toInt.toNat + 1 by omega]; exact A18)) (A19) (by omega)
set_option maxRecDepth 4000 in
set_option maxHeartbeats 2000000 in
theorem x_putReadyF {E : Nat → Nat × (Nat → Int32)} {d : Nat} {Q : ez_Q} {h : ez_H} {f : Int32} {w : Int32} (S : zSh h) (hf : 0 ≤ f.toInt ∧ f.toInt ≤ 16) (K : ∀ h2, zW (fun _ _ => False) (fun q => q = 6) (fun _ => False) h h2 → rdC (ez_I h2 6) f.toInt.toNat w 4 → (∀ k, (k < f.toInt.toNat ∨ f.toInt.toNat + 4 ≤ k) → ez_I h2 6 k = ez_I h 6 k) → Q (.inl none) h2) : pw E d 20 0 [some (.ref 1), some (.int f), some (.int w), none] [] h Q := by
  have gf := z_rng f
  have gw := z_rng w
  have F := zW_refl (fun _ _ => False) (fun q => q = 6) (fun _ => False) h
  apply ez_Wp_in
  show ez_gw _ _ _ _ _ _ (cz_20) _ _ _ _ _
  refine gw_skip _ ?_
  refine z_C (m := 0) rfl rfl (fun x1 ex1 => ?_)
  refine gw_st rfl rfl rfl ?_
  show ez_gw _ _ _ _ _ _ _ _ [some (.ref 1), some (.int f), some (.int w), some (.int x1)] _ _ _
  exact ez_Wp_at ((x_putReadyF_L0 (f := f) (w := w) S hf K (((10 - x1.toInt)).toNat + 1)) h x1 F (by omega) ((by rw [show x1.toInt.toNat = 0 by omega]; exact fun j hj => by omega)) (fun k _ => rfl) (by omega)) rfl
set_option maxRecDepth 4000 in
set_option maxHeartbeats 2000000 in
theorem x_feedF {E : Nat → Nat × (Nat → Int32)} {d : Nat} {Q : ez_Q} {h : ez_H} {a0 : Int32} {a1 : Int32} {a2 : Int32} {a3 : Int32} {a4 : Int32} (S : zSh h)  (K : ∀ h2, zW (fun _ _ => False) (fun q => q = 6) (fun _ => False) h h2 → rdC (ez_I h2 6) 0 a0 4 → rdC (ez_I h2 6) 4 a1 4 → rdC (ez_I h2 6) 8 a2 4 → rdC (ez_I h2 6) 12 a3 4 → rdC (ez_I h2 6) 16 a4 4 → Q (.inl none) h2) : pw E (d + 1) 1 0 [some (.ref 1), some (.int a0), some (.int a1), some (.int a2), some (.int a3), some (.int a4)] [] h Q := by
  have ga0 := z_rng a0
  have ga1 := z_rng a1
  have ga2 := z_rng a2
  have ga3 := z_rng a3
  have ga4 := z_rng a4
  have F := zW_refl (fun _ _ => False) (fun q => q = 6) (fun _ => False) h
  apply ez_Wp_in
  show ez_gw _ _ _ _ _ _ (cz_1) _ _ _ _ _
  refine gw_skip _ ?_
  refine gw_ld rfl rfl ?_
  refine z_C (m := 0) rfl rfl (fun x1 ex1 => ?_)
  refine gw_ld rfl rfl ?_
  refine z_cl rfl rfl rfl rfl rfl rfl rfl rfl rfl rfl rfl (zT S (by decide) rfl) ?_
  refine x_putReadyF (f := x1) (w := a0) S (by omega) (fun h2 F3 k4 k5 => ?_)
  rw [show x1.toInt.toNat = 0 by omega] at k4 k5
  have S6 := zW_sh F3 S
  have F7 := zW_tr F (zW_mono F3 (fun q k hk => by first | omega | exact False.elim hk) (fun q hk => by first | omega | exact False.elim hk) (fun q hk => by first | omega | exact False.elim hk))
  refine gw_ld rfl rfl ?_
  refine z_C (m := 4) rfl rfl (fun x8 ex8 => ?_)
  refine gw_ld rfl rfl ?_
  refine z_cl rfl rfl rfl rfl rfl rfl rfl rfl rfl rfl rfl (zT S6 (by decide) rfl) ?_
  refine x_putReadyF (f := x8) (w := a1) S6 (by omega) (fun h9 F10 k11 k12 => ?_)
  rw [show x8.toInt.toNat = 4 by omega] at k11 k12
  have S13 := zW_sh F10 S6
  have F14 := zW_tr F7 (zW_mono F10 (fun q k hk => by first | omega | exact False.elim hk) (fun q hk => by first | omega | exact False.elim hk) (fun q hk => by first | omega | exact False.elim hk))
  have A15 : rdC (ez_I h9 6) 0 a0 4 := fun j hj => by rw [k12 _ (by omega)]; exact k4 j hj
  refine gw_ld rfl rfl ?_
  refine z_C (m := 8) rfl rfl (fun x16 ex16 => ?_)
  refine gw_ld rfl rfl ?_
  refine z_cl rfl rfl rfl rfl rfl rfl rfl rfl rfl rfl rfl (zT S13 (by decide) rfl) ?_
  refine x_putReadyF (f := x16) (w := a2) S13 (by omega) (fun h17 F18 k19 k20 => ?_)
  rw [show x16.toInt.toNat = 8 by omega] at k19 k20
  have S21 := zW_sh F18 S13
  have F22 := zW_tr F14 (zW_mono F18 (fun q k hk => by first | omega | exact False.elim hk) (fun q hk => by first | omega | exact False.elim hk) (fun q hk => by first | omega | exact False.elim hk))
  have A23 : rdC (ez_I h17 6) 0 a0 4 := fun j hj => by rw [k20 _ (by omega)]; exact A15 j hj
  have A24 : rdC (ez_I h17 6) 4 a1 4 := fun j hj => by rw [k20 _ (by omega)]; exact k11 j hj
  refine gw_ld rfl rfl ?_
  refine z_C (m := 12) rfl rfl (fun x25 ex25 => ?_)
  refine gw_ld rfl rfl ?_
  refine z_cl rfl rfl rfl rfl rfl rfl rfl rfl rfl rfl rfl (zT S21 (by decide) rfl) ?_
  refine x_putReadyF (f := x25) (w := a3) S21 (by omega) (fun h26 F27 k28 k29 => ?_)
  rw [show x25.toInt.toNat = 12 by omega] at k28 k29
  have S30 := zW_sh F27 S21
  have F31 := zW_tr F22 (zW_mono F27 (fun q k hk => by first | omega | exact False.elim hk) (fun q hk => by first | omega | exact False.elim hk) (fun q hk => by first | omega | exact False.elim hk))
  have A32 : rdC (ez_I h26 6) 0 a0 4 := fun j hj => by rw [k29 _ (by omega)]; exact A23 j hj
  have A33 : rdC (ez_I h26 6) 4 a1 4 := fun j hj => by rw [k29 _ (by omega)]; exact A24 j hj
  have A34 : rdC (ez_I h26 6) 8 a2 4 := fun j hj => by rw [k29 _ (by omega)]; exact k19 j hj
  refine gw_ld rfl rfl ?_
  refine z_C (m := 16) rfl rfl (fun x35 ex35 => ?_)
  refine gw_ld rfl rfl ?_
  refine z_cl rfl rfl rfl rfl rfl rfl rfl rfl rfl rfl rfl (zT S30 (by decide) rfl) ?_
  refine x_putReadyF (f := x35) (w := a4) S30 (by omega) (fun h36 F37 k38 k39 => ?_)
  rw [show x35.toInt.toNat = 16 by omega] at k38 k39
  have S40 := zW_sh F37 S30
  have F41 := zW_tr F31 (zW_mono F37 (fun q k hk => by first | omega | exact False.elim hk) (fun q hk => by first | omega | exact False.elim hk) (fun q hk => by first | omega | exact False.elim hk))
  have A42 : rdC (ez_I h36 6) 0 a0 4 := fun j hj => by rw [k39 _ (by omega)]; exact A32 j hj
  have A43 : rdC (ez_I h36 6) 4 a1 4 := fun j hj => by rw [k39 _ (by omega)]; exact A33 j hj
  have A44 : rdC (ez_I h36 6) 8 a2 4 := fun j hj => by rw [k39 _ (by omega)]; exact A34 j hj
  have A45 : rdC (ez_I h36 6) 12 a3 4 := fun j hj => by rw [k39 _ (by omega)]; exact k28 j hj
  refine z_rv ?_
  exact K _ F41 A42 A43 A44 A45 k38
set_option maxRecDepth 4000 in
set_option maxHeartbeats 2000000 in
theorem m_feedF_L0 {E : Nat → Nat × (Nat → Int32)} {d : Nat} {Q : ez_Q} {h : ez_H} {a0 : Int32} {a1 : Int32} {a2 : Int32} {a3 : Int32} {a4 : Int32} (S : zSh h) (hr : aR (ez_I h 74) 20 (-128) 127) (K : ∀ h2, zW (fun q k => q = 71 ∧ k = 0) (fun q => q = 74) (fun _ => False) h h2 → rdM (ez_I h2 74) 0 a0 4 → rdM (ez_I h2 74) 4 a1 4 → rdM (ez_I h2 74) 8 a2 4 → rdM (ez_I h2 74) 12 a3 4 → rdM (ez_I h2 74) 16 a4 4 → aR (ez_I h2 74) 20 (-128) 127 → Q (.inl none) h2) : ∀ N : Nat, (∀ (h2 : ez_H) (k : Int32) (l7 : Option Value) , zW (fun q k => q = 71 ∧ k = 0) (fun q => q = 74) (fun _ => False) h h2 → (0 ≤ k.toInt ∧ k.toInt ≤ 4) → rdM (ez_I h2 74) 0 a0 k.toInt.toNat → rdM (ez_I h2 74) 4 a1 k.toInt.toNat → rdM (ez_I h2 74) 8 a2 k.toInt.toNat → rdM (ez_I h2 74) 12 a3 k.toInt.toNat → rdM (ez_I h2 74) 16 a4 k.toInt.toNat → aR (ez_I h2 74) 20 (-128) 127 → (10 - k.toInt) < (N : Int) → pw E d 25 8 [some (.ref 71), some (.int a0), some (.int a1), some (.int a2), some (.int a3), some (.int a4), some (.int k), l7] [] h2 Q) := by
  intro N
  induction N with
  | zero => exact fun h2 k l7  F hinv A_m0 A_m1 A_m2 A_m3 A_m4 A_rg hm => absurd hm (by have w_k := z_rng k; have ga0 := z_rng a0; have ga1 := z_rng a1; have ga2 := z_rng a2; have ga3 := z_rng a3; have ga4 := z_rng a4; omega)
  | succ N ih =>
    refine fun h2 k l7  F hinv A_m0 A_m1 A_m2 A_m3 A_m4 A_rg hm => ?_
    · skip
      have w_k := z_rng k
      have ga0 := z_rng a0
      have ga1 := z_rng a1
      have ga2 := z_rng a2
      have ga3 := z_rng a3
      have ga4 := z_rng a4
      have S2 := zW_sh F S
      apply ez_Wp_in
      show ez_gw _ _ _ _ _ _ (cz_25) _ _ _ _ _
      refine gw_skip _ ?_
      have r1 := z_rng (ez_I h2 71 0)
      refine gw_ld rfl rfl ?_
      refine z_C (m := 4) rfl rfl (fun x2 ex2 => ?_)
      refine z_b2 (fun c3 => ?_) (fun c3 => ?_)
      · have c3 : x2.toInt ≤ k.toInt := c3
        refine gw_skip _ ?_
        refine z_rv ?_
        have hk4 : k.toInt.toNat = 4 := by omega
        have b0 := A_m0
        rw [hk4] at b0
        have b1 := A_m1
        rw [hk4] at b1
        have b2 := A_m2
        rw [hk4] at b2
        have b3 := A_m3
        rw [hk4] at b3
        have b4 := A_m4
        rw [hk4] at b4
        exact K _ F b0 b1 b2 b3 b4 A_rg
      · have c3 : ¬ (x2.toInt ≤ k.toInt) := c3
        refine z_C (m := 24) rfl rfl (fun x4 ex4 => ?_)
        refine z_C (m := 8) rfl rfl (fun x5 ex5 => ?_)
        refine gw_ld rfl rfl ?_
        refine z_mulL (c := 8) ex5 (by omega) (fun x6 ex6 => ?_)
        refine z_sub (by omega) (fun x7 ex7 => ?_)
        refine gw_st rfl rfl rfl ?_
        show ez_gw _ _ _ _ _ _ _ _ [some (.ref 71), some (.int a0), some (.int a1), some (.int a2), some (.int a3), some (.int a4), some (.int k), some (.int x7)] _ _ _
        refine gw_ld rfl rfl ?_
        refine z_gR (q := 74) (zT S2 (by decide) rfl) (zRf S2 (by decide) (by decide) rfl) (by decide) ?_
        refine gw_ld rfl rfl ?_
        refine gw_ld rfl rfl ?_
        refine gw_ld rfl rfl ?_
        refine z_2 rfl (fun x8 ex8 => ?_)
        have rx8 := z_rng x8
        refine z_1 rfl (fun x9 ex9 => ?_)
        have rx9 := z_rng x9
        refine z_bs (n := 20) (zT S2 (by decide) rfl) (zN S2 (by decide) rfl) (by omega) (fun h10 e11 => ?_)
        have S13 := zSh_set S2 e11
        have F14 := zW_setA F e11 (by omega)
        have f15 : ez_I h10 71 0 = (ez_I h2 71 0) := (zI_ne e11 (by omega)).trans (rfl)
        have A16 : rdM (ez_I h10 74) 0 a0 (k.toInt.toNat + 1) := rdM_s A_m0 e11 (by omega) (by rw [n_i2b, ex9, n_i2b]; exact byN_s (j := k.toInt.toNat) (by omega) (by omega) ex8) rfl
        have A17 : rdM (ez_I h10 74) 4 a1 k.toInt.toNat := rdM_o A_m1 e11 (by omega)
        have A18 : rdM (ez_I h10 74) 8 a2 k.toInt.toNat := rdM_o A_m2 e11 (by omega)
        have A19 : rdM (ez_I h10 74) 12 a3 k.toInt.toNat := rdM_o A_m3 e11 (by omega)
        have A20 : rdM (ez_I h10 74) 16 a4 k.toInt.toNat := rdM_o A_m4 e11 (by omega)
        have A21 : aR (ez_I h10 74) 20 (-128) 127 := aR_up A_rg e11 (n_i2b_rng _)
        refine gw_ld rfl rfl ?_
        refine z_gR (q := 74) (zT S13 (by decide) rfl) (zRf S13 (by decide) (by decide) rfl) (by decide) ?_
        refine z_C (m := 4) rfl rfl (fun x22 ex22 => ?_)
        refine gw_ld rfl rfl ?_
        refine z_add (by omega) (fun x23 ex23 => ?_)
        refine gw_ld rfl rfl ?_
        refine gw_ld rfl rfl ?_
        refine z_2 rfl (fun x24 ex24 => ?_)
        have rx24 := z_rng x24
        refine z_1 rfl (fun x25 ex25 => ?_)
        have rx25 := z_rng x25
        refine z_bs (n := 20) (zT S13 (by decide) rfl) (zN S13 (by decide) rfl) (by omega) (fun h26 e27 => ?_)
        have S29 := zSh_set S13 e27
        have F30 := zW_setA F14 e27 (by omega)
        have f31 : ez_I h26 71 0 = (ez_I h2 71 0) := (zI_ne e27 (by omega)).trans (f15)
        have A32 : rdM (ez_I h26 74) 0 a0 (k.toInt.toNat + 1) := rdM_o A16 e27 (by omega)
        have A33 : rdM (ez_I h26 74) 4 a1 (k.toInt.toNat + 1) := rdM_s A17 e27 (by omega) (by rw [n_i2b, ex25, n_i2b]; exact byN_s (j := k.toInt.toNat) (by omega) (by omega) ex24) rfl
        have A34 : rdM (ez_I h26 74) 8 a2 k.toInt.toNat := rdM_o A18 e27 (by omega)
        have A35 : rdM (ez_I h26 74) 12 a3 k.toInt.toNat := rdM_o A19 e27 (by omega)
        have A36 : rdM (ez_I h26 74) 16 a4 k.toInt.toNat := rdM_o A20 e27 (by omega)
        have A37 : aR (ez_I h26 74) 20 (-128) 127 := aR_up A21 e27 (n_i2b_rng _)
        clear A16
        clear A17
        clear A18
        clear A19
        clear A20
        clear A21
        refine gw_ld rfl rfl ?_
        refine z_gR (q := 74) (zT S29 (by decide) rfl) (zRf S29 (by decide) (by decide) rfl) (by decide) ?_
        refine z_C (m := 8) rfl rfl (fun x38 ex38 => ?_)
        refine gw_ld rfl rfl ?_
        refine z_add (by omega) (fun x39 ex39 => ?_)
        refine gw_ld rfl rfl ?_
        refine gw_ld rfl rfl ?_
        refine z_2 rfl (fun x40 ex40 => ?_)
        have rx40 := z_rng x40
        refine z_1 rfl (fun x41 ex41 => ?_)
        have rx41 := z_rng x41
        refine z_bs (n := 20) (zT S29 (by decide) rfl) (zN S29 (by decide) rfl) (by omega) (fun h42 e43 => ?_)
        have S45 := zSh_set S29 e43
        have F46 := zW_setA F30 e43 (by omega)
        have f47 : ez_I h42 71 0 = (ez_I h2 71 0) := (zI_ne e43 (by omega)).trans (f31)
        have A48 : rdM (ez_I h42 74) 0 a0 (k.toInt.toNat + 1) := rdM_o A32 e43 (by omega)
        have A49 : rdM (ez_I h42 74) 4 a1 (k.toInt.toNat + 1) := rdM_o A33 e43 (by omega)
        have A50 : rdM (ez_I h42 74) 8 a2 (k.toInt.toNat + 1) := rdM_s A34 e43 (by omega) (by rw [n_i2b, ex41, n_i2b]; exact byN_s (j := k.toInt.toNat) (by omega) (by omega) ex40) rfl
        have A51 : rdM (ez_I h42 74) 12 a3 k.toInt.toNat := rdM_o A35 e43 (by omega)
        have A52 : rdM (ez_I h42 74) 16 a4 k.toInt.toNat := rdM_o A36 e43 (by omega)
        have A53 : aR (ez_I h42 74) 20 (-128) 127 := aR_up A37 e43 (n_i2b_rng _)
        clear A32
        clear A33
        clear A34
        clear A35
        clear A36
        clear A37
        refine gw_ld rfl rfl ?_
        refine z_gR (q := 74) (zT S45 (by decide) rfl) (zRf S45 (by decide) (by decide) rfl) (by decide) ?_
        refine z_C (m := 12) rfl rfl (fun x54 ex54 => ?_)
        refine gw_ld rfl rfl ?_
        refine z_add (by omega) (fun x55 ex55 => ?_)
        refine gw_ld rfl rfl ?_
        refine gw_ld rfl rfl ?_
        refine z_2 rfl (fun x56 ex56 => ?_)
        have rx56 := z_rng x56
        refine z_1 rfl (fun x57 ex57 => ?_)
        have rx57 := z_rng x57
        refine z_bs (n := 20) (zT S45 (by decide) rfl) (zN S45 (by decide) rfl) (by omega) (fun h58 e59 => ?_)
        have S61 := zSh_set S45 e59
        have F62 := zW_setA F46 e59 (by omega)
        have f63 : ez_I h58 71 0 = (ez_I h2 71 0) := (zI_ne e59 (by omega)).trans (f47)
        have A64 : rdM (ez_I h58 74) 0 a0 (k.toInt.toNat + 1) := rdM_o A48 e59 (by omega)
        have A65 : rdM (ez_I h58 74) 4 a1 (k.toInt.toNat + 1) := rdM_o A49 e59 (by omega)
        have A66 : rdM (ez_I h58 74) 8 a2 (k.toInt.toNat + 1) := rdM_o A50 e59 (by omega)
        have A67 : rdM (ez_I h58 74) 12 a3 (k.toInt.toNat + 1) := rdM_s A51 e59 (by omega) (by rw [n_i2b, ex57, n_i2b]; exact byN_s (j := k.toInt.toNat) (by omega) (by omega) ex56) rfl
        have A68 : rdM (ez_I h58 74) 16 a4 k.toInt.toNat := rdM_o A52 e59 (by omega)
        have A69 : aR (ez_I h58 74) 20 (-128) 127 := aR_up A53 e59 (n_i2b_rng _)
        clear A48
        clear A49
        clear A50
        clear A51
        clear A52
        clear A53
        refine gw_ld rfl rfl ?_
        refine z_gR (q := 74) (zT S61 (by decide) rfl) (zRf S61 (by decide) (by decide) rfl) (by decide) ?_
        refine z_C (m := 16) rfl rfl (fun x70 ex70 => ?_)
        refine gw_ld rfl rfl ?_
        refine z_add (by omega) (fun x71 ex71 => ?_)
        refine gw_ld rfl rfl ?_
        refine gw_ld rfl rfl ?_
        refine z_2 rfl (fun x72 ex72 => ?_)
        have rx72 := z_rng x72
        refine z_1 rfl (fun x73 ex73 => ?_)
        have rx73 := z_rng x73
        refine z_bs (n := 20) (zT S61 (by decide) rfl) (zN S61 (by decide) rfl) (by omega) (fun h74 e75 => ?_)
        have S77 := zSh_set S61 e75
        have F78 := zW_setA F62 e75 (by omega)
        have f79 : ez_I h74 71 0 = (ez_I h2 71 0) := (zI_ne e75 (by omega)).trans (f63)
        have A80 : rdM (ez_I h74 74) 0 a0 (k.toInt.toNat + 1) := rdM_o A64 e75 (by omega)
        have A81 : rdM (ez_I h74 74) 4 a1 (k.toInt.toNat + 1) := rdM_o A65 e75 (by omega)
        have A82 : rdM (ez_I h74 74) 8 a2 (k.toInt.toNat + 1) := rdM_o A66 e75 (by omega)
        have A83 : rdM (ez_I h74 74) 12 a3 (k.toInt.toNat + 1) := rdM_o A67 e75 (by omega)
        have A84 : rdM (ez_I h74 74) 16 a4 (k.toInt.toNat + 1) := rdM_s A68 e75 (by omega) (by rw [n_i2b, ex73, n_i2b]; exact byN_s (j := k.toInt.toNat) (by omega) (by omega) ex72) rfl
        have A85 : aR (ez_I h74 74) 20 (-128) 127 := aR_up A69 e75 (n_i2b_rng _)
        clear A64
        clear A65
        clear A66
        clear A67
        clear A68
        clear A69
        refine z_inc rfl (by rw [show (1 : Int32).toInt = 1 from rfl]; omega) (fun x86 ex86 => ?_)
        rw [show (1 : Int32).toInt = 1 from rfl] at ex86
        show ez_gw _ _ _ _ _ _ _ _ [some (.ref 71), some (.int a0), some (.int a1), some (.int a2), some (.int a3), some (.int a4), some (.int x86), some (.int x7)] _ _ _
        refine z_go ?_
        have t87 := congrArg Int32.toInt (f79)
        exact ih h74 x86 (some (.int x7)) F78 (by omega) ((by rw [show x86.toInt.toNat = k.toInt.toNat + 1 by omega]; exact A80)) ((by rw [show x86.toInt.toNat = k.toInt.toNat + 1 by omega]; exact A81)) ((by rw [show x86.toInt.toNat = k.toInt.toNat + 1 by omega]; exact A82)) ((by rw [show x86.toInt.toNat = k.toInt.toNat + 1 by omega]; exact A83)) ((by rw [show x86.toInt.toNat = k.toInt.toNat + 1 by omega]; exact A84)) (A85) (by omega)
set_option maxRecDepth 4000 in
set_option maxHeartbeats 2000000 in
theorem m_feedF {E : Nat → Nat × (Nat → Int32)} {d : Nat} {Q : ez_Q} {h : ez_H} {a0 : Int32} {a1 : Int32} {a2 : Int32} {a3 : Int32} {a4 : Int32} (S : zSh h) (hr : aR (ez_I h 74) 20 (-128) 127) (K : ∀ h2, zW (fun q k => q = 71 ∧ k = 0) (fun q => q = 74) (fun _ => False) h h2 → rdM (ez_I h2 74) 0 a0 4 → rdM (ez_I h2 74) 4 a1 4 → rdM (ez_I h2 74) 8 a2 4 → rdM (ez_I h2 74) 12 a3 4 → rdM (ez_I h2 74) 16 a4 4 → aR (ez_I h2 74) 20 (-128) 127 → Q (.inl none) h2) : pw E d 25 0 [some (.ref 71), some (.int a0), some (.int a1), some (.int a2), some (.int a3), some (.int a4), none, none] [] h Q := by
  have ga0 := z_rng a0
  have ga1 := z_rng a1
  have ga2 := z_rng a2
  have ga3 := z_rng a3
  have ga4 := z_rng a4
  have F := zW_refl (fun q k => q = 71 ∧ k = 0) (fun q => q = 74) (fun _ => False) h
  apply ez_Wp_in
  show ez_gw _ _ _ _ _ _ (cz_25) _ _ _ _ _
  refine gw_skip _ ?_
  have r1 := z_rng (ez_I h 71 0)
  refine gw_ld rfl rfl ?_
  refine z_C (m := 0) rfl rfl (fun x2 ex2 => ?_)
  refine z_pI (zT S (by decide) rfl) (fun h3 e4 => ?_)
  have S5 := zSh_set S e4
  have F6 := zW_setF F e4 (by omega)
  have f7 : ez_I h3 71 0 = x2 := zI_eq e4
  have A8 : ez_I h3 74 = ez_I h 74 := by rw [zI_fn e4 74 (by decide)]
  refine z_C (m := 0) rfl rfl (fun x9 ex9 => ?_)
  refine gw_st rfl rfl rfl ?_
  show ez_gw _ _ _ _ _ _ _ _ [some (.ref 71), some (.int a0), some (.int a1), some (.int a2), some (.int a3), some (.int a4), some (.int x9), none] _ _ _
  have t10 := congrArg Int32.toInt (f7)
  exact ez_Wp_at ((m_feedF_L0 (a0 := a0) (a1 := a1) (a2 := a2) (a3 := a3) (a4 := a4) S hr K (((10 - x9.toInt)).toNat + 1)) h3 x9 (none) F6 (by omega) ((by rw [show x9.toInt.toNat = 0 by omega]; exact fun j hj => by omega)) ((by rw [show x9.toInt.toNat = 0 by omega]; exact fun j hj => by omega)) ((by rw [show x9.toInt.toNat = 0 by omega]; exact fun j hj => by omega)) ((by rw [show x9.toInt.toNat = 0 by omega]; exact fun j hj => by omega)) ((by rw [show x9.toInt.toNat = 0 by omega]; exact fun j hj => by omega)) ((by rw [A8]; exact hr)) (by omega)) rfl
set_option maxRecDepth 4000 in
set_option maxHeartbeats 2000000 in
theorem x_takeF {E : Nat → Nat × (Nat → Int32)} {d : Nat} {Q : ez_Q} {h : ez_H}  (S : zSh h) (hM : zMem h) (hz : 0 ≤ (ez_I h 4 1).toInt ∧ (ez_I h 4 1).toInt ≤ 6100) (Ke : 6000 < (ez_I h 4 1).toInt → Q (.inr 1) (ez_bump h)) (K : ∀ h2 (x : Int32), zW (fun q k => q = 2 ∧ k = 1) (fun q => q = 3) (fun _ => False) h h2 → (ez_I h 4 1).toInt ≤ 6000 → x = ez_I h2 2 1 → (ez_I h2 2 1).toInt = (ez_I h 4 1).toInt → (∀ k : Nat, (k : Int) < (ez_I h 4 1).toInt → ez_I h2 3 k = ez_I h 5 k) → Q (.inl (some (.int x))) h2) : pw E (d + 1) 5 0 [some (.ref 1)] [] h Q := by
  have F := zW_refl (fun q k => q = 2 ∧ k = 1) (fun q => q = 3) (fun _ => False) h
  apply ez_Wp_in
  show ez_gw _ _ _ _ _ _ (cz_5) _ _ _ _ _
  refine gw_skip _ ?_
  have r1 := z_rng (ez_I h 2 1)
  refine gw_ld rfl rfl ?_
  refine z_gR (q := 4) (zT S (by decide) rfl) (zRf S (by decide) (by decide) rfl) (by decide) ?_
  have r2 := z_rng (ez_I h 4 1)
  refine z_gI2 (by decide) (zT S (by decide) rfl) (zW_f F (by decide) (by decide)) ?_
  refine z_C (m := 6000) rfl rfl (fun x3 ex3 => ?_)
  refine z_b2 (fun c4 => ?_) (fun c4 => ?_)
  · have c4 : ((ez_I h 4 1)).toInt ≤ x3.toInt := c4
    refine gw_skip _ ?_
    refine gw_ld rfl rfl ?_
    refine z_gR (q := 2) (zT S (by decide) rfl) (zRf S (by decide) (by decide) rfl) (by decide) ?_
    refine gw_ld rfl rfl ?_
    refine z_gR (q := 4) (zT S (by decide) rfl) (zRf S (by decide) (by decide) rfl) (by decide) ?_
    refine z_cl rfl rfl rfl rfl rfl rfl rfl rfl rfl rfl rfl (zT S (by decide) rfl) ?_
    refine c_become (p := 2) (q := 4) S (by decide) (by decide) (by decide) (by omega) (fun h5 F6 k7 k8 => ?_)
    have S9 := zW_sh F6 S
    have F10 := zW_tr F (zW_mono F6 (fun q k hk => by first | omega | exact False.elim hk) (fun q hk => by first | omega | exact False.elim hk) (fun q hk => by first | omega | exact False.elim hk))
    have r11 := z_rng (ez_I h5 2 1)
    refine gw_ld rfl rfl ?_
    refine z_gR (q := 2) (zT S9 (by decide) rfl) (zRf S9 (by decide) (by decide) rfl) (by decide) ?_
    refine z_gI2 (by decide) (zT S9 (by decide) rfl) (rfl) ?_
    refine z_ri ?_
    exact K _ _ F10 (by omega) rfl k7 k8
  · have c4 : ¬ (((ez_I h 4 1)).toInt ≤ x3.toInt) := c4
    refine z_th (zMw F hM) ?_
    exact Ke (by omega)
