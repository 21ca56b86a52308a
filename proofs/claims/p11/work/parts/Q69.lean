/-! PRINTED by wip/pack: calls that tell nothing -/
set_option maxRecDepth 4000 in
set_option maxHeartbeats 2000000 in
theorem x_crcW_L0 {E : Nat → Nat × (Nat → Int32)} {d : Nat} {Q : ez_Q} {h : ez_H}  (S : zSh h) (hE : zE E) (hz : 0 ≤ (ez_I h 2 1).toInt ∧ (ez_I h 2 1).toInt ≤ 6000) (K : ∀ x : Int32, Q (.inl (some (.int x))) h) : ∀ N : Nat, (∀ (h2 : ez_H) (c : Int32) (i : Int32) , zW (fun _ _ => False) (fun _ => False) (fun _ => False) h h2 → (0 ≤ i.toInt ∧ i.toInt ≤ 6000) → (10000 - i.toInt) < (N : Int) → pw E d 6 4 [some (.ref 1), some (.int c), some (.int i)] [] h2 Q) := by
  intro N
  induction N with
  | zero => exact fun h2 c i  F hinv  hm => absurd hm (by have w_c := z_rng c; have w_i := z_rng i; omega)
  | succ N ih =>
    refine fun h2 c i  F hinv  hm => ?_
    · skip
      have w_c := z_rng c
      have w_i := z_rng i
      have S2 := zW_sh F S
      apply ez_Wp_in
      show ez_gw _ _ _ _ _ _ (cz_6) _ _ _ _ _
      refine gw_skip _ ?_
      refine gw_ld rfl rfl ?_
      refine gw_ld rfl rfl ?_
      refine z_gR (q := 2) (zT S2 (by decide) rfl) (zRf S2 (by decide) (by decide) rfl) (by decide) ?_
      have r1 := z_rng (ez_I h 2 1)
      refine z_gI2 (by decide) (zT S2 (by decide) rfl) (zW_f F (fun c => c) (fun c => c)) ?_
      refine z_b2 (fun c2 => ?_) (fun c2 => ?_)
      · have c2 : ((ez_I h 2 1)).toInt ≤ i.toInt := c2
        refine gw_skip _ ?_
        refine gw_ld rfl rfl ?_
        refine z_C (m := -1) rfl rfl (fun x3 ex3 => ?_)
        refine z_2 rfl (fun x4 ex4 => ?_)
        have rx4 := z_rng x4
        refine z_ri ?_
        exact zW_Q F (K x4 )
      · have c2 : ¬ (((ez_I h 2 1)).toInt ≤ i.toInt) := c2
        refine gw_ld rfl rfl ?_
        refine gw_ld rfl rfl ?_
        refine z_gR (q := 2) (zT S2 (by decide) rfl) (zRf S2 (by decide) (by decide) rfl) (by decide) ?_
        refine z_gR (q := 3) (zT S2 (by decide) rfl) (zRf S2 (by decide) (by decide) rfl) (by decide) ?_
        refine gw_ld rfl rfl ?_
        refine z_iaV (n := 6100) (zT S2 (by decide) rfl) (zN S2 (by decide) rfl) (by omega) (zW_f F (fun c => c) (fun c => c)) ?_
        generalize ex5 : ez_I h 3 i.toInt.toNat = x5
        have rx5 := z_rng x5
        refine z_2 rfl (fun x6 ex6 => ?_)
        have rx6 := z_rng x6
        refine gw_st rfl rfl rfl ?_
        show ez_gw _ _ _ _ _ _ _ _ [some (.ref 1), some (.int x6), some (.int i)] _ _ _
        refine gw_ld rfl rfl ?_
        refine z_C (m := 4) rfl rfl (fun x7 ex7 => ?_)
        refine z_2 rfl (fun x8 ex8 => ?_)
        have rx8 := z_rng x8
        refine z_gs ?_
        refine gw_ld rfl rfl ?_
        refine z_C (m := 15) rfl rfl (fun x9 ex9 => ?_)
        refine z_and (fun x10 ex10 ux10 wx10 => ?_)
        have rx10 := z_rng x10
        replace ux10 := ux10 (by omega)
        clear wx10
        have vx10 := n_mask (k := 4) (by decide) (by omega) ex10
        rw [show (2 : Int) ^ 4 = 16 from rfl] at vx10
        refine z_iaE (n := 16) (hE 0) (by omega) ?_
        generalize ex11 : (tz_ar (0 + 1)).getD x10.toInt.toNat 0 = x11
        have rx11 := z_rng x11
        refine z_2 rfl (fun x12 ex12 => ?_)
        have rx12 := z_rng x12
        refine gw_st rfl rfl rfl ?_
        show ez_gw _ _ _ _ _ _ _ _ [some (.ref 1), some (.int x12), some (.int i)] _ _ _
        refine gw_ld rfl rfl ?_
        refine z_C (m := 4) rfl rfl (fun x13 ex13 => ?_)
        refine z_2 rfl (fun x14 ex14 => ?_)
        have rx14 := z_rng x14
        refine z_gs ?_
        refine gw_ld rfl rfl ?_
        refine z_C (m := 15) rfl rfl (fun x15 ex15 => ?_)
        refine z_and (fun x16 ex16 ux16 wx16 => ?_)
        have rx16 := z_rng x16
        replace ux16 := ux16 (by omega)
        clear wx16
        have vx16 := n_mask (k := 4) (by decide) (by omega) ex16
        rw [show (2 : Int) ^ 4 = 16 from rfl] at vx16
        refine z_iaE (n := 16) (hE 0) (by omega) ?_
        generalize ex17 : (tz_ar (0 + 1)).getD x16.toInt.toNat 0 = x17
        have rx17 := z_rng x17
        refine z_2 rfl (fun x18 ex18 => ?_)
        have rx18 := z_rng x18
        refine gw_st rfl rfl rfl ?_
        show ez_gw _ _ _ _ _ _ _ _ [some (.ref 1), some (.int x18), some (.int i)] _ _ _
        refine z_inc rfl (by rw [show (1 : Int32).toInt = 1 from rfl]; omega) (fun x19 ex19 => ?_)
        rw [show (1 : Int32).toInt = 1 from rfl] at ex19
        show ez_gw _ _ _ _ _ _ _ _ [some (.ref 1), some (.int x18), some (.int x19)] _ _ _
        refine z_go ?_
        exact ih h2 x18 x19 F (by omega)  (by omega)
set_option maxRecDepth 4000 in
set_option maxHeartbeats 2000000 in
theorem x_crcW {E : Nat → Nat × (Nat → Int32)} {d : Nat} {Q : ez_Q} {h : ez_H}  (S : zSh h) (hE : zE E) (hz : 0 ≤ (ez_I h 2 1).toInt ∧ (ez_I h 2 1).toInt ≤ 6000) (K : ∀ x : Int32, Q (.inl (some (.int x))) h) : pw E d 6 0 [some (.ref 1), none, none] [] h Q := by
  have F := zW_refl (fun _ _ => False) (fun _ => False) (fun _ => False) h
  apply ez_Wp_in
  show ez_gw _ _ _ _ _ _ (cz_6) _ _ _ _ _
  refine gw_skip _ ?_
  refine z_C (m := -1) rfl rfl (fun x1 ex1 => ?_)
  refine gw_st rfl rfl rfl ?_
  show ez_gw _ _ _ _ _ _ _ _ [some (.ref 1), some (.int x1), none] _ _ _
  refine z_C (m := 0) rfl rfl (fun x2 ex2 => ?_)
  refine gw_st rfl rfl rfl ?_
  show ez_gw _ _ _ _ _ _ _ _ [some (.ref 1), some (.int x1), some (.int x2)] _ _ _
  exact ez_Wp_at ((x_crcW_L0  S hE hz K (((10000 - x2.toInt)).toNat + 1)) h x1 x2 F (by omega)  (by omega)) rfl
theorem x75_0 : ∀ k : Nat, ¬ (72 = 71 ∧ k = 0) := fun k c => by omega
set_option maxRecDepth 4000 in
set_option maxHeartbeats 2000000 in
theorem m_crcW_L0 {E : Nat → Nat × (Nat → Int32)} {d : Nat} {Q : ez_Q} {h : ez_H}  (S : zSh h) (hz : 0 ≤ (ez_I h 71 6).toInt ∧ (ez_I h 71 6).toInt ≤ 6000) (K : ∀ h2 (x : Int32), zW (fun q k => q = 71 ∧ k = 0) (fun _ => False) (fun _ => False) h h2 → Q (.inl (some (.int x))) h2) : ∀ N : Nat, (∀ (h2 : ez_H) (c : Int32) (i : Int32) (l3 : Option Value) , zW (fun q k => q = 71 ∧ k = 0) (fun _ => False) (fun _ => False) h h2 → (0 ≤ i.toInt ∧ i.toInt ≤ 6000) → (100 * (10000 - i.toInt)) < (N : Int) → pw E d 30 9 [some (.ref 71), some (.int c), some (.int i), l3] [] h2 Q) ∧ (∀ (h2 : ez_H) (c : Int32) (i : Int32) (j : Int32) , zW (fun q k => q = 71 ∧ k = 0) (fun _ => False) (fun _ => False) h h2 → (0 ≤ i.toInt ∧ i.toInt < 6000 ∧ 0 ≤ j.toInt ∧ j.toInt ≤ 8) → (100 * (10000 - i.toInt) - 1 - j.toInt) < (N : Int) → pw E d 30 32 [some (.ref 71), some (.int c), some (.int i), some (.int j)] [] h2 Q) := by
  intro N
  induction N with
  | zero => exact ⟨fun h2 c i l3  F hinv  hm => absurd hm (by have w_c := z_rng c; have w_i := z_rng i; omega), fun h2 c i j  F hinv  hm => absurd hm (by have w_c := z_rng c; have w_i := z_rng i; have w_j := z_rng j; omega)⟩
  | succ N ih =>
    refine ⟨fun h2 c i l3  F hinv  hm => ?_, fun h2 c i j  F hinv  hm => ?_⟩
    · skip
      have w_c := z_rng c
      have w_i := z_rng i
      have S2 := zW_sh F S
      apply ez_Wp_in
      show ez_gw _ _ _ _ _ _ (cz_30) _ _ _ _ _
      refine gw_skip _ ?_
      have r1 := z_rng (ez_I h2 71 0)
      refine gw_ld rfl rfl ?_
      refine gw_ld rfl rfl ?_
      have r2 := z_rng (ez_I h 71 6)
      refine z_gI2 (by decide) (zT S2 (by decide) rfl) (zW_f F (fun c => c) (by decide)) ?_
      refine z_b2 (fun c3 => ?_) (fun c3 => ?_)
      · have c3 : ((ez_I h 71 6)).toInt ≤ i.toInt := c3
        refine gw_skip _ ?_
        refine gw_ld rfl rfl ?_
        refine z_C (m := -1) rfl rfl (fun x4 ex4 => ?_)
        refine z_2 rfl (fun x5 ex5 => ?_)
        have rx5 := z_rng x5
        refine z_ri ?_
        exact K _ x5 F 
      · have c3 : ¬ (((ez_I h 71 6)).toInt ≤ i.toInt) := c3
        refine gw_ld rfl rfl ?_
        refine gw_ld rfl rfl ?_
        refine z_gR (q := 72) (zT S2 (by decide) rfl) (zRf S2 (by decide) (by decide) rfl) (by decide) ?_
        refine gw_ld rfl rfl ?_
        refine z_baV (n := 6000) (zT S2 (by decide) rfl) (zN S2 (by decide) rfl) (by omega) (zW_f F (fun c => c) (x75_0 _)) ?_
        generalize ex6 : ez_I h 72 i.toInt.toNat = x6
        have rx6 := z_rng x6
        refine z_C (m := 255) rfl rfl (fun x7 ex7 => ?_)
        refine z_and (fun x8 ex8 ux8 wx8 => ?_)
        have rx8 := z_rng x8
        replace ux8 := ux8 (by omega)
        clear wx8
        refine z_2 rfl (fun x9 ex9 => ?_)
        have rx9 := z_rng x9
        refine gw_st rfl rfl rfl ?_
        show ez_gw _ _ _ _ _ _ _ _ [some (.ref 71), some (.int x9), some (.int i), l3] _ _ _
        refine z_C (m := 0) rfl rfl (fun x10 ex10 => ?_)
        refine gw_st rfl rfl rfl ?_
        show ez_gw _ _ _ _ _ _ _ _ [some (.ref 71), some (.int x9), some (.int i), some (.int x10)] _ _ _
        exact ez_Wp_at (ih.2 h2 x9 i x10 F (by omega)  (by omega)) rfl
    · skip
      have w_c := z_rng c
      have w_i := z_rng i
      have w_j := z_rng j
      have S2 := zW_sh F S
      apply ez_Wp_in
      show ez_gw _ _ _ _ _ _ (cz_30) _ _ _ _ _
      refine gw_skip _ ?_
      have r11 := z_rng (ez_I h2 71 0)
      refine gw_ld rfl rfl ?_
      refine z_C (m := 8) rfl rfl (fun x12 ex12 => ?_)
      refine z_b2 (fun c13 => ?_) (fun c13 => ?_)
      · have c13 : x12.toInt ≤ j.toInt := c13
        refine gw_skip _ ?_
        refine z_inc rfl (by rw [show (1 : Int32).toInt = 1 from rfl]; omega) (fun x14 ex14 => ?_)
        rw [show (1 : Int32).toInt = 1 from rfl] at ex14
        show ez_gw _ _ _ _ _ _ _ _ [some (.ref 71), some (.int c), some (.int x14), some (.int j)] _ _ _
        refine z_go ?_
        exact ih.1 h2 c x14 (some (.int j)) F (by omega)  (by omega)
      · have c13 : ¬ (x12.toInt ≤ j.toInt) := c13
        refine gw_ld rfl rfl ?_
        refine z_C (m := 1) rfl rfl (fun x15 ex15 => ?_)
        refine z_and (fun x16 ex16 ux16 wx16 => ?_)
        have rx16 := z_rng x16
        replace ux16 := ux16 (by omega)
        clear wx16
        refine z_C (m := 1) rfl rfl (fun x17 ex17 => ?_)
        refine z_b2 (fun c18 => ?_) (fun c18 => ?_)
        · have c18 : x16.toInt ≠ x17.toInt := c18
          refine gw_skip _ ?_
          refine gw_ld rfl rfl ?_
          refine z_C (m := 1) rfl rfl (fun x19 ex19 => ?_)
          refine z_2 rfl (fun x20 ex20 => ?_)
          have rx20 := z_rng x20
          refine gw_st rfl rfl rfl ?_
          show ez_gw _ _ _ _ _ _ _ _ [some (.ref 71), some (.int x20), some (.int i), some (.int j)] _ _ _
          refine z_inc rfl (by rw [show (1 : Int32).toInt = 1 from rfl]; omega) (fun x21 ex21 => ?_)
          rw [show (1 : Int32).toInt = 1 from rfl] at ex21
          show ez_gw _ _ _ _ _ _ _ _ [some (.ref 71), some (.int x20), some (.int i), some (.int x21)] _ _ _
          refine z_go ?_
          exact ih.2 h2 x20 i x21 F (by omega)  (by omega)
        · have c18 : ¬ (x16.toInt ≠ x17.toInt) := c18
          refine gw_ld rfl rfl ?_
          refine z_C (m := 1) rfl rfl (fun x22 ex22 => ?_)
          refine z_2 rfl (fun x23 ex23 => ?_)
          have rx23 := z_rng x23
          refine z_C (m := -306674912) rfl rfl (fun x24 ex24 => ?_)
          refine z_2 rfl (fun x25 ex25 => ?_)
          have rx25 := z_rng x25
          refine z_go ?_
          refine gw_skip _ ?_
          refine gw_st rfl rfl rfl ?_
          show ez_gw _ _ _ _ _ _ _ _ [some (.ref 71), some (.int x25), some (.int i), some (.int j)] _ _ _
          refine z_inc rfl (by rw [show (1 : Int32).toInt = 1 from rfl]; omega) (fun x26 ex26 => ?_)
          rw [show (1 : Int32).toInt = 1 from rfl] at ex26
          show ez_gw _ _ _ _ _ _ _ _ [some (.ref 71), some (.int x25), some (.int i), some (.int x26)] _ _ _
          refine z_go ?_
          exact ih.2 h2 x25 i x26 F (by omega)  (by omega)
set_option maxRecDepth 4000 in
set_option maxHeartbeats 2000000 in
theorem m_crcW {E : Nat → Nat × (Nat → Int32)} {d : Nat} {Q : ez_Q} {h : ez_H}  (S : zSh h) (hz : 0 ≤ (ez_I h 71 6).toInt ∧ (ez_I h 71 6).toInt ≤ 6000) (K : ∀ h2 (x : Int32), zW (fun q k => q = 71 ∧ k = 0) (fun _ => False) (fun _ => False) h h2 → Q (.inl (some (.int x))) h2) : pw E d 30 0 [some (.ref 71), none, none, none] [] h Q := by
  have F := zW_refl (fun q k => q = 71 ∧ k = 0) (fun _ => False) (fun _ => False) h
  apply ez_Wp_in
  show ez_gw _ _ _ _ _ _ (cz_30) _ _ _ _ _
  refine gw_skip _ ?_
  have r1 := z_rng (ez_I h 71 0)
  refine gw_ld rfl rfl ?_
  refine z_C (m := 0) rfl rfl (fun x2 ex2 => ?_)
  refine z_pI (zT S (by decide) rfl) (fun h3 e4 => ?_)
  have S5 := zSh_set S e4
  have F6 := zW_setF F e4 (by decide)
  have f7 : ez_I h3 71 0 = x2 := zI_eq e4
  refine z_C (m := -1) rfl rfl (fun x8 ex8 => ?_)
  refine gw_st rfl rfl rfl ?_
  show ez_gw _ _ _ _ _ _ _ _ [some (.ref 71), some (.int x8), none, none] _ _ _
  refine z_C (m := 0) rfl rfl (fun x9 ex9 => ?_)
  refine gw_st rfl rfl rfl ?_
  show ez_gw _ _ _ _ _ _ _ _ [some (.ref 71), some (.int x8), some (.int x9), none] _ _ _
  have t10 := congrArg Int32.toInt (f7)
  exact ez_Wp_at ((m_crcW_L0  S hz K (((100 * (10000 - x9.toInt))).toNat + 1)).1 h3 x8 x9 (none) F6 (by omega)  (by omega)) rfl
set_option maxRecDepth 4000 in
set_option maxHeartbeats 2000000 in
theorem x_faultW {E : Nat → Nat × (Nat → Int32)} {d : Nat} {Q : ez_Q} {h : ez_H} {w : Int32} (S : zSh h)  (K : ∀ x : Int32, Q (.inl (some (.int x))) h) : pw E d 14 0 [some (.ref 1), some (.int w)] [] h Q := by
  have gw := z_rng w
  have F := zW_refl (fun _ _ => False) (fun _ => False) (fun _ => False) h
  apply ez_Wp_in
  show ez_gw _ _ _ _ _ _ (cz_14) _ _ _ _ _
  refine gw_skip _ ?_
  refine gw_ld rfl rfl ?_
  refine gw_jp rfl rfl rfl rfl rfl rfl rfl ?_
  refine ⟨fun c1 => ?_, fun c1 => ?_⟩
  · have c1 : w.toInt = 0 := congrArg Int32.toInt c1
    refine gw_skip _ ?_
    refine gw_ld rfl rfl ?_
    refine z_gR (q := 69) (zT S (by decide) rfl) (zRf S (by decide) (by decide) rfl) (by decide) ?_
    have r2 := z_rng (ez_I h 69 2)
    refine z_gI2 (by decide) (zT S (by decide) rfl) (zW_f F (fun c => c) (fun c => c)) ?_
    refine z_ri ?_
    exact zW_Q F (K _ )
  have c1 : ¬ w.toInt = 0 := fun q => c1 (z_inj q)
  refine ⟨fun c3 => ?_, fun c3 => ?_⟩
  · have c3 : w.toInt = 1 := congrArg Int32.toInt c3
    refine gw_skip _ ?_
    refine gw_ld rfl rfl ?_
    refine z_gR (q := 69) (zT S (by decide) rfl) (zRf S (by decide) (by decide) rfl) (by decide) ?_
    have r4 := z_rng (ez_I h 69 3)
    refine z_gI2 (by decide) (zT S (by decide) rfl) (zW_f F (fun c => c) (fun c => c)) ?_
    refine z_ri ?_
    exact zW_Q F (K _ )
  have c3 : ¬ w.toInt = 1 := fun q => c3 (z_inj q)
  refine gw_skip _ ?_
  refine z_C (m := -1) rfl rfl (fun x5 ex5 => ?_)
  refine z_ri ?_
  exact zW_Q F (K x5 )
set_option maxRecDepth 4000 in
set_option maxHeartbeats 2000000 in
theorem m_faultW {E : Nat → Nat × (Nat → Int32)} {d : Nat} {Q : ez_Q} {h : ez_H} {w : Int32} (S : zSh h)  (K : ∀ h2 (x : Int32), zW (fun q k => q = 71 ∧ k = 0) (fun _ => False) (fun _ => False) h h2 → Q (.inl (some (.int x))) h2) : pw E d 61 0 [some (.ref 71), some (.int w)] [] h Q := by
  have gw := z_rng w
  have F := zW_refl (fun q k => q = 71 ∧ k = 0) (fun _ => False) (fun _ => False) h
  apply ez_Wp_in
  show ez_gw _ _ _ _ _ _ (cz_61) _ _ _ _ _
  refine gw_skip _ ?_
  have r1 := z_rng (ez_I h 71 0)
  refine gw_ld rfl rfl ?_
  refine z_C (m := 0) rfl rfl (fun x2 ex2 => ?_)
  refine z_pI (zT S (by decide) rfl) (fun h3 e4 => ?_)
  have S5 := zSh_set S e4
  have F6 := zW_setF F e4 (by decide)
  have f7 : ez_I h3 71 0 = x2 := zI_eq e4
  refine gw_ld rfl rfl ?_
  refine z_b1 (fun c8 => ?_) (fun c8 => ?_)
  · have c8 : w.toInt ≠ 0 := c8
    refine gw_skip _ ?_
    refine gw_ld rfl rfl ?_
    refine z_C (m := 1) rfl rfl (fun x9 ex9 => ?_)
    refine z_b2 (fun c10 => ?_) (fun c10 => ?_)
    · have c10 : w.toInt ≠ x9.toInt := c10
      refine gw_skip _ ?_
      refine z_C (m := -1) rfl rfl (fun x11 ex11 => ?_)
      refine z_ri ?_
      have t12 := congrArg Int32.toInt (f7)
      exact K _ x11 F6 
    · have c10 : ¬ (w.toInt ≠ x9.toInt) := c10
      refine gw_ld rfl rfl ?_
      have r13 := z_rng (ez_I h 71 63)
      refine z_gI2 (by decide) (zT S5 (by decide) rfl) (zW_f F6 (fun c => c) (by decide)) ?_
      refine z_go ?_
      refine gw_skip _ ?_
      refine z_ri ?_
      have t14 := congrArg Int32.toInt (f7)
      exact K _ _ F6 
  · have c8 : ¬ (w.toInt ≠ 0) := c8
    refine gw_ld rfl rfl ?_
    have r15 := z_rng (ez_I h 71 62)
    refine z_gI2 (by decide) (zT S5 (by decide) rfl) (zW_f F6 (fun c => c) (by decide)) ?_
    refine z_go ?_
    refine gw_skip _ ?_
    refine z_ri ?_
    have t16 := congrArg Int32.toInt (f7)
    exact K _ _ F6 
set_option maxRecDepth 4000 in
set_option maxHeartbeats 2000000 in
theorem x_lengthW {E : Nat → Nat × (Nat → Int32)} {d : Nat} {Q : ez_Q} {h : ez_H} {y : Int32} (S : zSh h)  (K : ∀ x : Int32, Q (.inl (some (.int x))) h) : pw E d 18 0 [some (.ref 1), some (.int y)] [] h Q := by
  have gy := z_rng y
  have F := zW_refl (fun _ _ => False) (fun _ => False) (fun _ => False) h
  apply ez_Wp_in
  show ez_gw _ _ _ _ _ _ (cz_18) _ _ _ _ _
  refine gw_skip _ ?_
  refine gw_ld rfl rfl ?_
  refine z_b1 (fun c1 => ?_) (fun c1 => ?_)
  · have c1 : y.toInt < 0 := c1
    refine gw_skip _ ?_
    refine z_C (m := -1) rfl rfl (fun x2 ex2 => ?_)
    refine z_ri ?_
    exact zW_Q F (K x2 )
  · have c1 : ¬ (y.toInt < 0) := c1
    refine gw_ld rfl rfl ?_
    refine z_C (m := 64) rfl rfl (fun x3 ex3 => ?_)
    refine z_b2 (fun c4 => ?_) (fun c4 => ?_)
    · have c4 : x3.toInt ≤ y.toInt := c4
      refine gw_skip _ ?_
      refine z_C (m := -1) rfl rfl (fun x5 ex5 => ?_)
      refine z_ri ?_
      exact zW_Q F (K x5 )
    · have c4 : ¬ (x3.toInt ≤ y.toInt) := c4
      refine gw_ld rfl rfl ?_
      refine z_gR (q := 8) (zT S (by decide) rfl) (zRf S (by decide) (by decide) rfl) (by decide) ?_
      refine gw_ld rfl rfl ?_
      refine z_iaV (n := 64) (zT S (by decide) rfl) (zN S (by decide) rfl) (by omega) (zW_f F (fun c => c) (fun c => c)) ?_
      generalize ex6 : ez_I h 8 y.toInt.toNat = x6
      have rx6 := z_rng x6
      refine z_go ?_
      refine gw_skip _ ?_
      refine z_ri ?_
      exact zW_Q F (K x6 )
theorem x75_1 : ∀ k : Nat, ¬ (125 = 71 ∧ k = 0) := fun k c => by omega
set_option maxRecDepth 4000 in
set_option maxHeartbeats 2000000 in
theorem m_lengthW {E : Nat → Nat × (Nat → Int32)} {d : Nat} {Q : ez_Q} {h : ez_H} {y : Int32} (S : zSh h)  (K : ∀ h2 (x : Int32), zW (fun q k => q = 71 ∧ k = 0) (fun _ => False) (fun _ => False) h h2 → Q (.inl (some (.int x))) h2) : pw E d 65 0 [some (.ref 71), some (.int y)] [] h Q := by
  have gy := z_rng y
  have F := zW_refl (fun q k => q = 71 ∧ k = 0) (fun _ => False) (fun _ => False) h
  apply ez_Wp_in
  show ez_gw _ _ _ _ _ _ (cz_65) _ _ _ _ _
  refine gw_skip _ ?_
  have r1 := z_rng (ez_I h 71 0)
  refine gw_ld rfl rfl ?_
  refine z_C (m := 0) rfl rfl (fun x2 ex2 => ?_)
  refine z_pI (zT S (by decide) rfl) (fun h3 e4 => ?_)
  have S5 := zSh_set S e4
  have F6 := zW_setF F e4 (by decide)
  have f7 : ez_I h3 71 0 = x2 := zI_eq e4
  refine gw_ld rfl rfl ?_
  refine z_b1 (fun c8 => ?_) (fun c8 => ?_)
  · have c8 : y.toInt < 0 := c8
    refine gw_skip _ ?_
    refine z_C (m := -1) rfl rfl (fun x9 ex9 => ?_)
    refine z_ri ?_
    have t10 := congrArg Int32.toInt (f7)
    exact K _ x9 F6 
  · have c8 : ¬ (y.toInt < 0) := c8
    refine gw_ld rfl rfl ?_
    refine z_C (m := 64) rfl rfl (fun x11 ex11 => ?_)
    refine z_b2 (fun c12 => ?_) (fun c12 => ?_)
    · have c12 : x11.toInt ≤ y.toInt := c12
      refine gw_skip _ ?_
      refine z_C (m := -1) rfl rfl (fun x13 ex13 => ?_)
      refine z_ri ?_
      have t14 := congrArg Int32.toInt (f7)
      exact K _ x13 F6 
    · have c12 : ¬ (x11.toInt ≤ y.toInt) := c12
      refine gw_ld rfl rfl ?_
      refine z_gR (q := 125) (zT S5 (by decide) rfl) (zRf S5 (by decide) (by decide) rfl) (by decide) ?_
      refine gw_ld rfl rfl ?_
      refine z_iaV (n := 64) (zT S5 (by decide) rfl) (zN S5 (by decide) rfl) (by omega) (zW_f F6 (fun c => c) (x75_1 _)) ?_
      generalize ex15 : ez_I h 125 y.toInt.toNat = x15
      have rx15 := z_rng x15
      refine z_go ?_
      refine gw_skip _ ?_
      refine z_ri ?_
      have t16 := congrArg Int32.toInt (f7)
      exact K _ x15 F6 
