/-! PRINTED by wip/p18/con24.py: weigh and measure of the model, told in full -/
set_option maxRecDepth 4000 in
set_option maxHeartbeats 20000000 in
theorem m_weighF {E : Nat → Nat × (Nat → Int32)} {d : Nat} {Q : ez_Q} {h : ez_H} {y : Int32} {w : Int32} (S : zSh h)  (K : ∀ h2, zG (fun k => k = 0) (fun q => q = 124) h h2 → ((ez_I h2 71 0).toInt = (if y.toInt < 0 ∨ 63 < y.toInt then 1 else if w.toInt < 0 ∨ 1000000 < w.toInt then 2 else 0)) → ((0 ≤ y.toInt ∧ y.toInt < 64 ∧ 0 ≤ w.toInt ∧ w.toInt ≤ 1000000) → ez_I h2 124 y.toInt.toNat = w ∧ ∀ k, k ≠ y.toInt.toNat → ez_I h2 124 k = ez_I h 124 k) → (¬ (0 ≤ y.toInt ∧ y.toInt < 64 ∧ 0 ≤ w.toInt ∧ w.toInt ≤ 1000000) → ez_I h2 124 = ez_I h 124) → Q (.inl none) h2) : pw E d 63 0 [some (.ref 71), some (.int y), some (.int w)] [] h Q := by
  have gy := z_rng y
  have gw := z_rng w
  have F := zG_refl (fun k => k = 0) (fun q => q = 124) h
  apply ez_Wp_in
  show ez_gw _ _ _ _ _ _ (cz_63) _ _ _ _ _
  refine gw_skip _ ?_
  have r1 := z_rng (ez_I h 71 0)
  refine gw_ld rfl rfl ?_
  refine gw_ld rfl rfl ?_
  refine z_b1 (fun c2 => ?_) (fun c2 => ?_)
  · have c2 : y.toInt < 0 := c2
    refine gw_skip _ ?_
    refine z_C (m := 1) rfl rfl (fun x3 ex3 => ?_)
    refine z_go ?_
    refine gw_skip _ ?_
    refine z_pI (zT S (by decide) rfl) (fun h4 e5 => ?_)
    have S6 := zSh_set S e5
    have F7 := zG_setF F e5 (by decide)
    have f8 : ez_I h4 71 0 = x3 := zI_eq e5
    refine gw_ld rfl rfl ?_
    refine z_gI2 (by decide) (zT S6 (by decide) rfl) (f8) ?_
    refine z_b1 (fun c9 => ?_) (fun c9 => ?_)
    · have c9 : x3.toInt ≠ 0 := c9
      refine gw_skip _ ?_
      refine z_rv ?_
      have t10 := congrArg Int32.toInt (f8)
      exact K _ F7 (by split <;> (try split) <;> omega) (fun q => by exfalso; omega) (fun _ => zI_fn e5 124 (by decide))
    · have c9 : ¬ (x3.toInt ≠ 0) := c9
      exfalso; omega
  · have c2 : ¬ (y.toInt < 0) := c2
    refine gw_ld rfl rfl ?_
    refine z_C (m := 63) rfl rfl (fun x11 ex11 => ?_)
    refine z_b2 (fun c12 => ?_) (fun c12 => ?_)
    · have c12 : y.toInt ≤ x11.toInt := c12
      refine gw_skip _ ?_
      refine gw_ld rfl rfl ?_
      refine z_b1 (fun c13 => ?_) (fun c13 => ?_)
      · have c13 : w.toInt < 0 := c13
        refine gw_skip _ ?_
        refine z_C (m := 2) rfl rfl (fun x14 ex14 => ?_)
        refine z_go ?_
        refine gw_skip _ ?_
        refine z_pI (zT S (by decide) rfl) (fun h15 e16 => ?_)
        have S17 := zSh_set S e16
        have F18 := zG_setF F e16 (by decide)
        have f19 : ez_I h15 71 0 = x14 := zI_eq e16
        refine gw_ld rfl rfl ?_
        refine z_gI2 (by decide) (zT S17 (by decide) rfl) (f19) ?_
        refine z_b1 (fun c20 => ?_) (fun c20 => ?_)
        · have c20 : x14.toInt ≠ 0 := c20
          refine gw_skip _ ?_
          refine z_rv ?_
          have t21 := congrArg Int32.toInt (f19)
          exact K _ F18 (by split <;> (try split) <;> omega) (fun q => by exfalso; omega) (fun _ => zI_fn e16 124 (by decide))
        · have c20 : ¬ (x14.toInt ≠ 0) := c20
          exfalso; omega
      · have c13 : ¬ (w.toInt < 0) := c13
        refine gw_ld rfl rfl ?_
        refine z_C (m := 1000000) rfl rfl (fun x22 ex22 => ?_)
        refine z_b2 (fun c23 => ?_) (fun c23 => ?_)
        · have c23 : w.toInt ≤ x22.toInt := c23
          refine gw_skip _ ?_
          refine z_C (m := 0) rfl rfl (fun x24 ex24 => ?_)
          refine z_pI (zT S (by decide) rfl) (fun h25 e26 => ?_)
          have S27 := zSh_set S e26
          have F28 := zG_setF F e26 (by decide)
          have f29 : ez_I h25 71 0 = x24 := zI_eq e26
          refine gw_ld rfl rfl ?_
          refine z_gI2 (by decide) (zT S27 (by decide) rfl) (f29) ?_
          refine z_b1 (fun c30 => ?_) (fun c30 => ?_)
          · have c30 : x24.toInt ≠ 0 := c30
            exfalso; omega
          · have c30 : ¬ (x24.toInt ≠ 0) := c30
            refine gw_ld rfl rfl ?_
            refine z_gR (q := 124) (zT S27 (by decide) rfl) (zRf S27 (by decide) (by decide) rfl) (by decide) ?_
            refine gw_ld rfl rfl ?_
            refine gw_ld rfl rfl ?_
            refine z_is (n := 64) (zT S27 (by decide) rfl) (zN S27 (by decide) rfl) (by omega) (fun h31 e32 => ?_)
            have S33 := zSh_set S27 e32
            have F34 := zG_setA F28 e32 (by decide) (by decide)
            have f35 : ez_I h31 71 0 = x24 := (zI_ne e32 (by omega)).trans (f29)
            have A36 : ez_I h31 124 y.toInt.toNat = w ∧ ∀ k, k ≠ y.toInt.toNat → ez_I h31 124 k = ez_I h 124 k := ⟨zI_eq e32, fun k hk => (zI_ne e32 (by omega)).trans (zI_ne e26 (by omega))⟩
            refine z_rv ?_
            have t37 := congrArg Int32.toInt (f35)
            exact K _ F34 (by split <;> (try split) <;> omega) (fun _ => A36) (fun q => by exfalso; omega)
        · have c23 : ¬ (w.toInt ≤ x22.toInt) := c23
          refine z_C (m := 2) rfl rfl (fun x38 ex38 => ?_)
          refine z_go ?_
          refine gw_skip _ ?_
          refine z_pI (zT S (by decide) rfl) (fun h39 e40 => ?_)
          have S41 := zSh_set S e40
          have F42 := zG_setF F e40 (by decide)
          have f43 : ez_I h39 71 0 = x38 := zI_eq e40
          refine gw_ld rfl rfl ?_
          refine z_gI2 (by decide) (zT S41 (by decide) rfl) (f43) ?_
          refine z_b1 (fun c44 => ?_) (fun c44 => ?_)
          · have c44 : x38.toInt ≠ 0 := c44
            refine gw_skip _ ?_
            refine z_rv ?_
            have t45 := congrArg Int32.toInt (f43)
            exact K _ F42 (by split <;> (try split) <;> omega) (fun q => by exfalso; omega) (fun _ => zI_fn e40 124 (by decide))
          · have c44 : ¬ (x38.toInt ≠ 0) := c44
            exfalso; omega
    · have c12 : ¬ (y.toInt ≤ x11.toInt) := c12
      refine z_C (m := 1) rfl rfl (fun x46 ex46 => ?_)
      refine z_go ?_
      refine gw_skip _ ?_
      refine z_pI (zT S (by decide) rfl) (fun h47 e48 => ?_)
      have S49 := zSh_set S e48
      have F50 := zG_setF F e48 (by decide)
      have f51 : ez_I h47 71 0 = x46 := zI_eq e48
      refine gw_ld rfl rfl ?_
      refine z_gI2 (by decide) (zT S49 (by decide) rfl) (f51) ?_
      refine z_b1 (fun c52 => ?_) (fun c52 => ?_)
      · have c52 : x46.toInt ≠ 0 := c52
        refine gw_skip _ ?_
        refine z_rv ?_
        have t53 := congrArg Int32.toInt (f51)
        exact K _ F50 (by split <;> (try split) <;> omega) (fun q => by exfalso; omega) (fun _ => zI_fn e48 124 (by decide))
      · have c52 : ¬ (x46.toInt ≠ 0) := c52
        exfalso; omega
set_option maxRecDepth 4000 in
set_option maxHeartbeats 20000000 in
theorem m_measF_L1 {E : Nat → Nat × (Nat → Int32)} {d : Nat} {Q : ez_Q} {h : ez_H} {m : Int32} (S : zSh h) (hU : aR (ez_I h 124) 64 0 1000000) (K : ∀ h2 (x : Int32), zG (fun k => k = 0) (fun q => 110 ≤ q ∧ q ≤ 114 ∨ q = 125) h h2 → ((ez_I h2 71 0).toInt = (if ¬ (1 ≤ m.toInt ∧ m.toInt ≤ 15) then 1 else if ¬ (poC (ez_I h 124) 64 : Int) ≤ 2 ^ m.toInt.toNat then 2 else 0)) → ((1 ≤ m.toInt ∧ m.toInt ≤ 15) ∧ (poC (ez_I h 124) 64 : Int) ≤ 2 ^ m.toInt.toNat → lnP (ez_I h 124) (ez_I h2 125) 64 m.toInt.toNat ∧ x = wsI (ez_I h 124) (ez_I h2 125) 64) → (¬ ((1 ≤ m.toInt ∧ m.toInt ≤ 15) ∧ (poC (ez_I h 124) 64 : Int) ≤ 2 ^ m.toInt.toNat) → ez_I h2 125 = ez_I h 125) → Q (.inl (some (.int x))) h2) : ∀ N : Nat, (∀ (h2 : ez_H) (n : Int32) (c : Int32) (i : Int32) , zG (fun k => k = 0) (fun q => 110 ≤ q ∧ q ≤ 114 ∨ q = 125) h h2 → (0 ≤ i.toInt ∧ i.toInt ≤ 64 ∧ (ez_I h2 71 0).toInt = 0 ∧ 1 ≤ m.toInt ∧ m.toInt ≤ 15) → lnP (ez_I h 124) (ez_I h2 125) 64 m.toInt.toNat → c = wsI (ez_I h 124) (ez_I h2 125) i.toInt.toNat → (poC (ez_I h 124) 64 : Int) ≤ 2 ^ m.toInt.toNat → (100 - i.toInt) < (N : Int) → pw E (d + 2) 64 93 [some (.ref 71), some (.int m), some (.int n), some (.int c), some (.int i)] [] h2 Q) := by
  intro N
  induction N with
  | zero => exact fun h2 n c i  F hinv A_ln A_ws A_p2 hm => absurd hm (by have w_n := z_rng n; have w_c := z_rng c; have w_i := z_rng i; have gm := z_rng m; omega)
  | succ N ih =>
    refine fun h2 n c i  F hinv A_ln A_ws A_p2 hm => ?_
    · skip
      have w_n := z_rng n
      have w_c := z_rng c
      have w_i := z_rng i
      have gm := z_rng m
      have S2 := zG_sh F S
      have hp2 := A_p2
      apply ez_Wp_in
      show ez_gw _ _ _ _ _ _ (cz_64) _ _ _ _ _
      refine gw_skip _ ?_
      have r1 := z_rng (ez_I h2 71 0)
      refine gw_ld rfl rfl ?_
      refine z_C (m := 64) rfl rfl (fun x2 ex2 => ?_)
      refine z_b2 (fun c3 => ?_) (fun c3 => ?_)
      · have c3 : x2.toInt ≤ i.toInt := c3
        refine gw_skip _ ?_
        refine gw_ld rfl rfl ?_
        refine z_ri ?_
        exact K _ c F (by rw [if_neg (fun q => q (by omega)), if_neg (fun q => q hp2)]; omega) (fun _ => ⟨A_ln, by rw [show (64 : Nat) = i.toInt.toNat by omega]; exact A_ws⟩) (fun q => absurd ⟨by omega, hp2⟩ q)
      · have c3 : ¬ (x2.toInt ≤ i.toInt) := c3
        refine gw_ld rfl rfl ?_
        refine gw_ld rfl rfl ?_
        refine z_gR (q := 124) (zT S2 (by decide) rfl) (zRf S2 (by decide) (by decide) rfl) (by decide) ?_
        refine gw_ld rfl rfl ?_
        refine z_iaV (n := 64) (zT S2 (by decide) rfl) (zN S2 (by decide) rfl) (by omega) (zG_a F (by decide) (by decide)) ?_
        generalize ex4 : ez_I h 124 i.toInt.toNat = x4
        have rx4 := z_rng x4
        refine gw_ld rfl rfl ?_
        refine z_gR (q := 125) (zT S2 (by decide) rfl) (zRf S2 (by decide) (by decide) rfl) (by decide) ?_
        refine gw_ld rfl rfl ?_
        refine z_ia (n := 64) (zT S2 (by decide) rfl) (zN S2 (by decide) rfl) (by omega) ?_
        generalize ex5 : ez_I h2 125 i.toInt.toNat = x5
        have rx5 := z_rng x5
        refine z_mulW (fun x6 ex6 => ?_)
        have rx6 := z_rng x6
        refine z_addW (fun x7 ex7 => ?_)
        have rx7 := z_rng x7
        refine gw_st rfl rfl rfl ?_
        show ez_gw _ _ _ _ _ _ _ _ [some (.ref 71), some (.int m), some (.int n), some (.int x7), some (.int i)] _ _ _
        refine z_inc rfl (by rw [show (1 : Int32).toInt = 1 from rfl]; omega) (fun x8 ex8 => ?_)
        rw [show (1 : Int32).toInt = 1 from rfl] at ex8
        show ez_gw _ _ _ _ _ _ _ _ [some (.ref 71), some (.int m), some (.int n), some (.int x7), some (.int x8)] _ _ _
        refine z_go ?_
        exact ih h2 n x7 x8 F (by omega) A_ln (wsI_s A_ws ex4 ex5 ex6 ex7 (by omega)) (hp2) (by omega)
set_option maxRecDepth 4000 in
set_option maxHeartbeats 20000000 in
theorem m_measF_L0 {E : Nat → Nat × (Nat → Int32)} {d : Nat} {Q : ez_Q} {h : ez_H} {m : Int32} (S : zSh h) (hU : aR (ez_I h 124) 64 0 1000000) (K : ∀ h2 (x : Int32), zG (fun k => k = 0) (fun q => 110 ≤ q ∧ q ≤ 114 ∨ q = 125) h h2 → ((ez_I h2 71 0).toInt = (if ¬ (1 ≤ m.toInt ∧ m.toInt ≤ 15) then 1 else if ¬ (poC (ez_I h 124) 64 : Int) ≤ 2 ^ m.toInt.toNat then 2 else 0)) → ((1 ≤ m.toInt ∧ m.toInt ≤ 15) ∧ (poC (ez_I h 124) 64 : Int) ≤ 2 ^ m.toInt.toNat → lnP (ez_I h 124) (ez_I h2 125) 64 m.toInt.toNat ∧ x = wsI (ez_I h 124) (ez_I h2 125) 64) → (¬ ((1 ≤ m.toInt ∧ m.toInt ≤ 15) ∧ (poC (ez_I h 124) 64 : Int) ≤ 2 ^ m.toInt.toNat) → ez_I h2 125 = ez_I h 125) → Q (.inl (some (.int x))) h2) : ∀ N : Nat, (∀ (h2 : ez_H) (n : Int32) (i : Int32) (l4 : Option Value) , zG (fun k => k = 0) (fun q => 110 ≤ q ∧ q ≤ 114 ∨ q = 125) h h2 → (0 ≤ n.toInt ∧ n.toInt ≤ i.toInt ∧ 0 ≤ i.toInt ∧ i.toInt ≤ 64 ∧ n.toInt = (poC (ez_I h 124) i.toInt.toNat : Nat)) → ez_I h2 125 = ez_I h 125 ∧ True → (100 - i.toInt) < (N : Int) → pw E (d + 2) 64 4 [some (.ref 71), some (.int m), some (.int n), some (.int i), l4] [] h2 Q) := by
  intro N
  induction N with
  | zero => exact fun h2 n i l4  F hinv A_s5 hm => absurd hm (by have w_n := z_rng n; have w_i := z_rng i; have gm := z_rng m; omega)
  | succ N ih =>
    refine fun h2 n i l4  F hinv A_s5 hm => ?_
    · skip
      have w_n := z_rng n
      have w_i := z_rng i
      have gm := z_rng m
      have S2 := zG_sh F S
      apply ez_Wp_in
      show ez_gw _ _ _ _ _ _ (cz_64) _ _ _ _ _
      refine gw_skip _ ?_
      have r1 := z_rng (ez_I h2 71 0)
      refine gw_ld rfl rfl ?_
      refine z_C (m := 64) rfl rfl (fun x2 ex2 => ?_)
      refine z_b2 (fun c3 => ?_) (fun c3 => ?_)
      · have c3 : x2.toInt ≤ i.toInt := c3
        refine gw_skip _ ?_
        refine gw_ld rfl rfl ?_
        refine gw_ld rfl rfl ?_
        refine z_C (m := 1) rfl rfl (fun x4 ex4 => ?_)
        refine z_b2 (fun c5 => ?_) (fun c5 => ?_)
        · have c5 : m.toInt < x4.toInt := c5
          refine gw_skip _ ?_
          refine z_C (m := 1) rfl rfl (fun x6 ex6 => ?_)
          refine z_go ?_
          refine gw_skip _ ?_
          refine z_pI (zT S2 (by decide) rfl) (fun h7 e8 => ?_)
          have S9 := zSh_set S2 e8
          have F10 := zG_setF F e8 (by decide)
          have f11 : ez_I h7 71 0 = x6 := zI_eq e8
          have A12 : ez_I h7 125 = ez_I h 125 ∧ True := by rw [zI_fn e8 125 (by decide)]; exact A_s5
          refine gw_ld rfl rfl ?_
          refine z_gI2 (by decide) (zT S9 (by decide) rfl) (f11) ?_
          refine z_b1 (fun c13 => ?_) (fun c13 => ?_)
          · have c13 : x6.toInt ≤ 0 := c13
            exfalso; omega
          · have c13 : ¬ (x6.toInt ≤ 0) := c13
            refine z_C (m := 0) rfl rfl (fun x14 ex14 => ?_)
            refine z_ri ?_
            have t15 := congrArg Int32.toInt (f11)
            exact K _ x14 F10 (by first | (rw [if_pos (by omega)]; omega) | (rw [if_neg (fun q => q (by omega)), if_pos hp3]; omega)) (fun q => by exfalso; first | omega | exact hp3 q.2) (fun _ => (A12).1)
        · have c5 : ¬ (m.toInt < x4.toInt) := c5
          refine gw_ld rfl rfl ?_
          refine z_C (m := 15) rfl rfl (fun x16 ex16 => ?_)
          refine z_b2 (fun c17 => ?_) (fun c17 => ?_)
          · have c17 : m.toInt ≤ x16.toInt := c17
            refine gw_skip _ ?_
            refine gw_ld rfl rfl ?_
            refine z_C (m := 1) rfl rfl (fun x18 ex18 => ?_)
            refine gw_ld rfl rfl ?_
            refine z_2 rfl (fun x19 ex19 => ?_)
            have rx19 := z_rng x19
            have vx19 := u_shl (T := m.toInt.toNat) (o := x18) (r := m) (by omega) (by omega) (by omega) ex19
            have hpw : (2 : Nat) ^ m.toInt.toNat ≤ 2 ^ 15 := Nat.pow_le_pow_right (by decide) (by omega)
            have hpw2 : (2 : Nat) ^ 15 = 32768 := rfl
            have htx19 := z_of_u (x := x19) (by omega)
            have hpc : (2 : Int) ^ m.toInt.toNat = ((2 ^ m.toInt.toNat : Nat) : Int) := by rw [Int.natCast_pow]; rfl
            have hn6 : n.toInt = (poC (ez_I h 124) 64 : Nat) := by rw [show (64 : Nat) = i.toInt.toNat by omega]; omega
            refine z_b2 (fun c20 => ?_) (fun c20 => ?_)
            · have c20 : n.toInt ≤ x19.toInt := c20
              refine gw_skip _ ?_
              have hp2 : (poC (ez_I h 124) 64 : Int) ≤ 2 ^ m.toInt.toNat := by omega
              refine z_C (m := 0) rfl rfl (fun x21 ex21 => ?_)
              refine z_pI (zT S2 (by decide) rfl) (fun h22 e23 => ?_)
              have S24 := zSh_set S2 e23
              have F25 := zG_setF F e23 (by decide)
              have f26 : ez_I h22 71 0 = x21 := zI_eq e23
              have A27 : ez_I h22 125 = ez_I h 125 ∧ True := by rw [zI_fn e23 125 (by decide)]; exact A_s5
              refine gw_ld rfl rfl ?_
              refine z_gI2 (by decide) (zT S24 (by decide) rfl) (f26) ?_
              refine z_b1 (fun c28 => ?_) (fun c28 => ?_)
              · have c28 : x21.toInt ≤ 0 := c28
                refine gw_skip _ ?_
                refine gw_ld rfl rfl ?_
                refine gw_ld rfl rfl ?_
                refine z_gR (q := 124) (zT S24 (by decide) rfl) (zRf S24 (by decide) (by decide) rfl) (by decide) ?_
                refine z_C (m := 64) rfl rfl (fun x29 ex29 => ?_)
                refine gw_ld rfl rfl ?_
                refine gw_ld rfl rfl ?_
                refine z_gR (q := 125) (zT S24 (by decide) rfl) (zRf S24 (by decide) (by decide) rfl) (by decide) ?_
                have t30 := congrArg Int32.toInt (f26)
                refine z_cl rfl rfl rfl rfl rfl rfl rfl rfl rfl rfl rfl (zT S24 (by decide) rfl) ?_
                refine m_lenF (u := 124) (w := 125) (al := x29) (li := m) (mx := 1000000) S24 (show zA 124 64 from fun _ S => ⟨zT S (by decide) rfl, zN S (by decide) rfl⟩) (show zA 125 64 from fun _ S => ⟨zT S (by decide) rfl, zN S (by decide) rfl⟩) (by decide) (by omega) (by omega) (by rw [zG_fn F25 124 (by decide) (by decide), show x29.toInt.toNat = 64 by omega]; exact hU) (by decide) (by rw [show x29.toInt.toNat = 64 by omega]; decide) (by rw [zG_fn F25 124 (by decide) (by decide), show x29.toInt.toNat = 64 by omega]; exact hp2) (fun h31 F32 k33 => ?_)
                rw [zG_fn F25 124 (by decide) (by decide), show x29.toInt.toNat = 64 by omega] at k33
                have S34 := zG_sh F32 S24
                have F35 := zG_tr F25 (zG_mono F32 (fun k hk => by first | omega | exact False.elim hk) (fun k hk => by first | omega | exact False.elim hk))
                have f36 : ez_I h31 71 0 = x21 := (zG_f F32 (by decide)).trans (f26)
                refine z_C (m := 0) rfl rfl (fun x37 ex37 => ?_)
                refine gw_st rfl rfl rfl ?_
                show ez_gw _ _ _ _ _ _ _ _ [some (.ref 71), some (.int m), some (.int n), some (.int x37), l4] _ _ _
                refine z_C (m := 0) rfl rfl (fun x38 ex38 => ?_)
                refine gw_st rfl rfl rfl ?_
                show ez_gw _ _ _ _ _ _ _ _ [some (.ref 71), some (.int m), some (.int n), some (.int x37), some (.int x38)] _ _ _
                have t39 := congrArg Int32.toInt (f36)
                exact ez_Wp_at ((m_measF_L1 (m := m) S hU K (((100 - x38.toInt)).toNat + 1)) h31 n x37 x38 F35 (by omega) k33 ((by rw [show x38.toInt.toNat = 0 by omega]; exact z_inj (by omega : x37.toInt = 0))) (hp2) (by omega)) rfl
              · have c28 : ¬ (x21.toInt ≤ 0) := c28
                exfalso; omega
            · have c20 : ¬ (n.toInt ≤ x19.toInt) := c20
              have hp3 : ¬ (poC (ez_I h 124) 64 : Int) ≤ 2 ^ m.toInt.toNat := by omega
              refine z_C (m := 2) rfl rfl (fun x40 ex40 => ?_)
              refine z_go ?_
              refine gw_skip _ ?_
              refine z_pI (zT S2 (by decide) rfl) (fun h41 e42 => ?_)
              have S43 := zSh_set S2 e42
              have F44 := zG_setF F e42 (by decide)
              have f45 : ez_I h41 71 0 = x40 := zI_eq e42
              have A46 : ez_I h41 125 = ez_I h 125 ∧ True := by rw [zI_fn e42 125 (by decide)]; exact A_s5
              refine gw_ld rfl rfl ?_
              refine z_gI2 (by decide) (zT S43 (by decide) rfl) (f45) ?_
              refine z_b1 (fun c47 => ?_) (fun c47 => ?_)
              · have c47 : x40.toInt ≤ 0 := c47
                exfalso; omega
              · have c47 : ¬ (x40.toInt ≤ 0) := c47
                refine z_C (m := 0) rfl rfl (fun x48 ex48 => ?_)
                refine z_ri ?_
                have t49 := congrArg Int32.toInt (f45)
                exact K _ x48 F44 (by first | (rw [if_pos (by omega)]; omega) | (rw [if_neg (fun q => q (by omega)), if_pos hp3]; omega)) (fun q => by exfalso; first | omega | exact hp3 q.2) (fun _ => (A46).1)
          · have c17 : ¬ (m.toInt ≤ x16.toInt) := c17
            refine z_C (m := 1) rfl rfl (fun x50 ex50 => ?_)
            refine z_go ?_
            refine gw_skip _ ?_
            refine z_pI (zT S2 (by decide) rfl) (fun h51 e52 => ?_)
            have S53 := zSh_set S2 e52
            have F54 := zG_setF F e52 (by decide)
            have f55 : ez_I h51 71 0 = x50 := zI_eq e52
            have A56 : ez_I h51 125 = ez_I h 125 ∧ True := by rw [zI_fn e52 125 (by decide)]; exact A_s5
            refine gw_ld rfl rfl ?_
            refine z_gI2 (by decide) (zT S53 (by decide) rfl) (f55) ?_
            refine z_b1 (fun c57 => ?_) (fun c57 => ?_)
            · have c57 : x50.toInt ≤ 0 := c57
              exfalso; omega
            · have c57 : ¬ (x50.toInt ≤ 0) := c57
              refine z_C (m := 0) rfl rfl (fun x58 ex58 => ?_)
              refine z_ri ?_
              have t59 := congrArg Int32.toInt (f55)
              exact K _ x58 F54 (by first | (rw [if_pos (by omega)]; omega) | (rw [if_neg (fun q => q (by omega)), if_pos hp3]; omega)) (fun q => by exfalso; first | omega | exact hp3 q.2) (fun _ => (A56).1)
      · have c3 : ¬ (x2.toInt ≤ i.toInt) := c3
        refine gw_ld rfl rfl ?_
        refine gw_ld rfl rfl ?_
        refine z_gR (q := 124) (zT S2 (by decide) rfl) (zRf S2 (by decide) (by decide) rfl) (by decide) ?_
        refine gw_ld rfl rfl ?_
        refine z_iaV (n := 64) (zT S2 (by decide) rfl) (zN S2 (by decide) rfl) (by omega) (zG_a F (by decide) (by decide)) ?_
        generalize ex60 : ez_I h 124 i.toInt.toNat = x60
        have rx60 := z_rng x60
        have yx60 := hU i.toInt.toNat (by omega)
        rw [ex60] at yx60
        refine z_b1 (fun c61 => ?_) (fun c61 => ?_)
        · have c61 : x60.toInt ≤ 0 := c61
          refine gw_skip _ ?_
          refine z_C (m := 0) rfl rfl (fun x62 ex62 => ?_)
          refine z_add (by omega) (fun x63 ex63 => ?_)
          refine gw_st rfl rfl rfl ?_
          show ez_gw _ _ _ _ _ _ _ _ [some (.ref 71), some (.int m), some (.int x63), some (.int i), l4] _ _ _
          refine z_inc rfl (by rw [show (1 : Int32).toInt = 1 from rfl]; omega) (fun x64 ex64 => ?_)
          rw [show (1 : Int32).toInt = 1 from rfl] at ex64
          show ez_gw _ _ _ _ _ _ _ _ [some (.ref 71), some (.int m), some (.int x63), some (.int x64), l4] _ _ _
          refine z_go ?_
          exact ih h2 x63 x64 (l4) F (⟨by omega, by omega, by omega, by omega, poC_n ex60 (by omega) (by omega) (by omega)⟩) (A_s5) (by omega)
        · have c61 : ¬ (x60.toInt ≤ 0) := c61
          refine z_C (m := 1) rfl rfl (fun x65 ex65 => ?_)
          refine z_go ?_
          refine gw_skip _ ?_
          refine z_add (by omega) (fun x66 ex66 => ?_)
          refine gw_st rfl rfl rfl ?_
          show ez_gw _ _ _ _ _ _ _ _ [some (.ref 71), some (.int m), some (.int x66), some (.int i), l4] _ _ _
          refine z_inc rfl (by rw [show (1 : Int32).toInt = 1 from rfl]; omega) (fun x67 ex67 => ?_)
          rw [show (1 : Int32).toInt = 1 from rfl] at ex67
          show ez_gw _ _ _ _ _ _ _ _ [some (.ref 71), some (.int m), some (.int x66), some (.int x67), l4] _ _ _
          refine z_go ?_
          exact ih h2 x66 x67 (l4) F (⟨by omega, by omega, by omega, by omega, poC_y ex60 (by omega) (by omega) (by omega)⟩) (A_s5) (by omega)
set_option maxRecDepth 4000 in
set_option maxHeartbeats 20000000 in
theorem m_measF {E : Nat → Nat × (Nat → Int32)} {d : Nat} {Q : ez_Q} {h : ez_H} {m : Int32} (S : zSh h) (hU : aR (ez_I h 124) 64 0 1000000) (K : ∀ h2 (x : Int32), zG (fun k => k = 0) (fun q => 110 ≤ q ∧ q ≤ 114 ∨ q = 125) h h2 → ((ez_I h2 71 0).toInt = (if ¬ (1 ≤ m.toInt ∧ m.toInt ≤ 15) then 1 else if ¬ (poC (ez_I h 124) 64 : Int) ≤ 2 ^ m.toInt.toNat then 2 else 0)) → ((1 ≤ m.toInt ∧ m.toInt ≤ 15) ∧ (poC (ez_I h 124) 64 : Int) ≤ 2 ^ m.toInt.toNat → lnP (ez_I h 124) (ez_I h2 125) 64 m.toInt.toNat ∧ x = wsI (ez_I h 124) (ez_I h2 125) 64) → (¬ ((1 ≤ m.toInt ∧ m.toInt ≤ 15) ∧ (poC (ez_I h 124) 64 : Int) ≤ 2 ^ m.toInt.toNat) → ez_I h2 125 = ez_I h 125) → Q (.inl (some (.int x))) h2) : pw E (d + 2) 64 0 [some (.ref 71), some (.int m), none, none, none] [] h Q := by
  have gm := z_rng m
  have F := zG_refl (fun k => k = 0) (fun q => 110 ≤ q ∧ q ≤ 114 ∨ q = 125) h
  apply ez_Wp_in
  show ez_gw _ _ _ _ _ _ (cz_64) _ _ _ _ _
  refine gw_skip _ ?_
  have r1 := z_rng (ez_I h 71 0)
  refine z_C (m := 0) rfl rfl (fun x2 ex2 => ?_)
  refine gw_st rfl rfl rfl ?_
  show ez_gw _ _ _ _ _ _ _ _ [some (.ref 71), some (.int m), some (.int x2), none, none] _ _ _
  refine z_C (m := 0) rfl rfl (fun x3 ex3 => ?_)
  refine gw_st rfl rfl rfl ?_
  show ez_gw _ _ _ _ _ _ _ _ [some (.ref 71), some (.int m), some (.int x2), some (.int x3), none] _ _ _
  exact ez_Wp_at ((m_measF_L0 (m := m) S hU K (((100 - x3.toInt)).toNat + 1)) h x2 x3 (none) F (by rw [show x3.toInt.toNat = 0 by omega]; have : poC (ez_I h 124) 0 = 0 := rfl; omega) (⟨rfl, trivial⟩) (by omega)) rfl
