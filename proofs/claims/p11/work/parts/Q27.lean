/-! PRINTED by wip/pack: a part, a block told by the model -/
set_option maxRecDepth 4000 in
set_option maxHeartbeats 2000000 in
theorem d_part {E : Nat → Nat × (Nat → Int32)} {d : Nat} {Q : ez_Q} {h : ez_H} {k : Int32} {w : Int32} (S : zSh h) (hc : 0 ≤ (ez_I h 71 14).toInt ∧ (ez_I h 71 14).toInt ≤ 6000) (K : ∀ h2 (x : Int32), zW (fun q k => q = 71 ∧ k = 0) (fun _ => False) (fun _ => False) h h2 → (¬ (0 ≤ k.toInt ∧ k.toInt < (ez_I h 71 14).toInt ∧ 0 ≤ w.toInt ∧ w.toInt ≤ 2) → x.toInt = -1) → (0 ≤ k.toInt ∧ k.toInt < (ez_I h 71 14).toInt → w.toInt = 0 → (ez_I h 78 k.toInt.toNat).toInt = 0 → x = ez_I h 79 k.toInt.toNat) → (0 ≤ k.toInt ∧ k.toInt < (ez_I h 71 14).toInt → w.toInt = 0 → (ez_I h 78 k.toInt.toNat).toInt ≠ 0 → x = ez_I h 77 k.toInt.toNat) → (0 ≤ k.toInt ∧ k.toInt < (ez_I h 71 14).toInt → w.toInt = 1 → w.toInt = 1 → x = ez_I h 78 k.toInt.toNat) → (0 ≤ k.toInt ∧ k.toInt < (ez_I h 71 14).toInt → w.toInt = 2 → w.toInt = 2 → x = ez_I h 80 k.toInt.toNat) → Q (.inl (some (.int x))) h2) : pw E d 47 0 [some (.ref 71), some (.int k), some (.int w)] [] h Q := by
  have gk := z_rng k
  have gw := z_rng w
  have F := zW_refl (fun q k => q = 71 ∧ k = 0) (fun _ => False) (fun _ => False) h
  apply ez_Wp_in
  show ez_gw _ _ _ _ _ _ (cz_47) _ _ _ _ _
  refine gw_skip _ ?_
  have r1 := z_rng (ez_I h 71 0)
  refine gw_ld rfl rfl ?_
  refine z_C (m := 0) rfl rfl (fun x2 ex2 => ?_)
  refine z_pI (zT S (by decide) rfl) (fun h3 e4 => ?_)
  have S5 := zSh_set S e4
  have F6 := zW_setF F e4 (by omega)
  have f7 : ez_I h3 71 0 = x2 := zI_eq e4
  refine gw_ld rfl rfl ?_
  refine z_b1 (fun c8 => ?_) (fun c8 => ?_)
  · have c8 : k.toInt < 0 := c8
    refine gw_skip _ ?_
    refine z_C (m := -1) rfl rfl (fun x9 ex9 => ?_)
    refine z_ri ?_
    have t10 := congrArg Int32.toInt (f7)
    exact K _ _ F6 (fun q => by omega) (fun q1 q2 q3 => by exfalso; omega) (fun q1 q2 q3 => by exfalso; omega) (fun q1 q2 q3 => by exfalso; omega) (fun q1 q2 q3 => by exfalso; omega)
  · have c8 : ¬ (k.toInt < 0) := c8
    refine gw_ld rfl rfl ?_
    refine gw_ld rfl rfl ?_
    have r11 := z_rng (ez_I h 71 14)
    refine z_gI2 (by decide) (zT S5 (by decide) rfl) (zW_f F6 (fun c => c) (by decide)) ?_
    refine z_b2 (fun c12 => ?_) (fun c12 => ?_)
    · have c12 : k.toInt < ((ez_I h 71 14)).toInt := c12
      refine gw_skip _ ?_
      refine gw_ld rfl rfl ?_
      refine z_b1 (fun c13 => ?_) (fun c13 => ?_)
      · have c13 : w.toInt ≠ 0 := c13
        refine gw_skip _ ?_
        refine gw_ld rfl rfl ?_
        refine z_C (m := 1) rfl rfl (fun x14 ex14 => ?_)
        refine z_b2 (fun c15 => ?_) (fun c15 => ?_)
        · have c15 : w.toInt ≠ x14.toInt := c15
          refine gw_skip _ ?_
          refine gw_ld rfl rfl ?_
          refine z_C (m := 2) rfl rfl (fun x16 ex16 => ?_)
          refine z_b2 (fun c17 => ?_) (fun c17 => ?_)
          · have c17 : w.toInt ≠ x16.toInt := c17
            refine gw_skip _ ?_
            refine z_C (m := -1) rfl rfl (fun x18 ex18 => ?_)
            refine z_ri ?_
            have t19 := congrArg Int32.toInt (f7)
            exact K _ _ F6 (fun q => by omega) (fun q1 q2 q3 => by exfalso; omega) (fun q1 q2 q3 => by exfalso; omega) (fun q1 q2 q3 => by exfalso; omega) (fun q1 q2 q3 => by exfalso; omega)
          · have c17 : ¬ (w.toInt ≠ x16.toInt) := c17
            refine gw_ld rfl rfl ?_
            refine z_gR (q := 80) (zT S5 (by decide) rfl) (zRf S5 (by decide) (by decide) rfl) (by decide) ?_
            refine gw_ld rfl rfl ?_
            refine z_iaV (n := 6000) (zT S5 (by decide) rfl) (zN S5 (by decide) rfl) (by omega) (zW_f F6 (fun c => c) (by omega)) ?_
            generalize ex20 : ez_I h 80 k.toInt.toNat = x20
            have rx20 := z_rng x20
            have yx20 : (ez_I h 80 k.toInt.toNat).toInt = x20.toInt := by rw [ex20]
            refine z_go ?_
            refine gw_skip _ ?_
            refine z_ri ?_
            have t21 := congrArg Int32.toInt (f7)
            exact K _ _ F6 (fun q => by omega) (fun q1 q2 q3 => by exfalso; omega) (fun q1 q2 q3 => by exfalso; omega) (fun q1 q2 q3 => by exfalso; omega) (fun q1 q2 q3 => by exact ex20.symm)
        · have c15 : ¬ (w.toInt ≠ x14.toInt) := c15
          refine gw_ld rfl rfl ?_
          refine z_gR (q := 78) (zT S5 (by decide) rfl) (zRf S5 (by decide) (by decide) rfl) (by decide) ?_
          refine gw_ld rfl rfl ?_
          refine z_iaV (n := 6000) (zT S5 (by decide) rfl) (zN S5 (by decide) rfl) (by omega) (zW_f F6 (fun c => c) (by omega)) ?_
          generalize ex22 : ez_I h 78 k.toInt.toNat = x22
          have rx22 := z_rng x22
          have yx22 : (ez_I h 78 k.toInt.toNat).toInt = x22.toInt := by rw [ex22]
          refine z_go ?_
          refine gw_skip _ ?_
          refine z_ri ?_
          have t23 := congrArg Int32.toInt (f7)
          exact K _ _ F6 (fun q => by omega) (fun q1 q2 q3 => by exfalso; omega) (fun q1 q2 q3 => by exfalso; omega) (fun q1 q2 q3 => by exact ex22.symm) (fun q1 q2 q3 => by exfalso; omega)
      · have c13 : ¬ (w.toInt ≠ 0) := c13
        refine gw_ld rfl rfl ?_
        refine z_gR (q := 78) (zT S5 (by decide) rfl) (zRf S5 (by decide) (by decide) rfl) (by decide) ?_
        refine gw_ld rfl rfl ?_
        refine z_iaV (n := 6000) (zT S5 (by decide) rfl) (zN S5 (by decide) rfl) (by omega) (zW_f F6 (fun c => c) (by omega)) ?_
        generalize ex24 : ez_I h 78 k.toInt.toNat = x24
        have rx24 := z_rng x24
        have yx24 : (ez_I h 78 k.toInt.toNat).toInt = x24.toInt := by rw [ex24]
        refine z_b1 (fun c25 => ?_) (fun c25 => ?_)
        · have c25 : x24.toInt ≠ 0 := c25
          refine gw_skip _ ?_
          refine gw_ld rfl rfl ?_
          refine z_gR (q := 77) (zT S5 (by decide) rfl) (zRf S5 (by decide) (by decide) rfl) (by decide) ?_
          refine gw_ld rfl rfl ?_
          refine z_iaV (n := 6000) (zT S5 (by decide) rfl) (zN S5 (by decide) rfl) (by omega) (zW_f F6 (fun c => c) (by omega)) ?_
          generalize ex26 : ez_I h 77 k.toInt.toNat = x26
          have rx26 := z_rng x26
          have yx26 : (ez_I h 77 k.toInt.toNat).toInt = x26.toInt := by rw [ex26]
          refine z_go ?_
          refine gw_skip _ ?_
          refine z_ri ?_
          have t27 := congrArg Int32.toInt (f7)
          exact K _ _ F6 (fun q => by omega) (fun q1 q2 q3 => by exfalso; omega) (fun q1 q2 q3 => by exact ex26.symm) (fun q1 q2 q3 => by exfalso; omega) (fun q1 q2 q3 => by exfalso; omega)
        · have c25 : ¬ (x24.toInt ≠ 0) := c25
          refine gw_ld rfl rfl ?_
          refine z_gR (q := 79) (zT S5 (by decide) rfl) (zRf S5 (by decide) (by decide) rfl) (by decide) ?_
          refine gw_ld rfl rfl ?_
          refine z_iaV (n := 6000) (zT S5 (by decide) rfl) (zN S5 (by decide) rfl) (by omega) (zW_f F6 (fun c => c) (by omega)) ?_
          generalize ex28 : ez_I h 79 k.toInt.toNat = x28
          have rx28 := z_rng x28
          have yx28 : (ez_I h 79 k.toInt.toNat).toInt = x28.toInt := by rw [ex28]
          refine z_go ?_
          refine gw_skip _ ?_
          refine z_ri ?_
          have t29 := congrArg Int32.toInt (f7)
          exact K _ _ F6 (fun q => by omega) (fun q1 q2 q3 => by exact ex28.symm) (fun q1 q2 q3 => by exfalso; omega) (fun q1 q2 q3 => by exfalso; omega) (fun q1 q2 q3 => by exfalso; omega)
    · have c12 : ¬ (k.toInt < ((ez_I h 71 14)).toInt) := c12
      refine z_C (m := -1) rfl rfl (fun x30 ex30 => ?_)
      refine z_ri ?_
      have t31 := congrArg Int32.toInt (f7)
      exact K _ _ F6 (fun q => by omega) (fun q1 q2 q3 => by exfalso; omega) (fun q1 q2 q3 => by exfalso; omega) (fun q1 q2 q3 => by exfalso; omega) (fun q1 q2 q3 => by exfalso; omega)
set_option maxRecDepth 4000 in
set_option maxHeartbeats 2000000 in
theorem d_block {E : Nat → Nat × (Nat → Int32)} {d : Nat} {Q : ez_Q} {h : ez_H} {k : Int32} {w : Int32} (S : zSh h) (hc : 0 ≤ (ez_I h 71 15).toInt ∧ (ez_I h 71 15).toInt ≤ 10) (K : ∀ h2 (x : Int32), zW (fun q k => q = 71 ∧ k = 0) (fun _ => False) (fun _ => False) h h2 → (¬ (0 ≤ k.toInt ∧ k.toInt < (ez_I h 71 15).toInt ∧ 0 ≤ w.toInt ∧ w.toInt ≤ 5) → x.toInt = -1) → (0 ≤ k.toInt ∧ k.toInt < (ez_I h 71 15).toInt → w.toInt = 0 → w.toInt = 0 → x = ez_I h 83 k.toInt.toNat) → (0 ≤ k.toInt ∧ k.toInt < (ez_I h 71 15).toInt → w.toInt = 1 → w.toInt = 1 → x = ez_I h 84 k.toInt.toNat) → (0 ≤ k.toInt ∧ k.toInt < (ez_I h 71 15).toInt → w.toInt = 2 → w.toInt = 2 → x = ez_I h 85 k.toInt.toNat) → (0 ≤ k.toInt ∧ k.toInt < (ez_I h 71 15).toInt → w.toInt = 3 → w.toInt = 3 → x = ez_I h 86 k.toInt.toNat) → (0 ≤ k.toInt ∧ k.toInt < (ez_I h 71 15).toInt → w.toInt = 4 → w.toInt = 4 → x = ez_I h 87 k.toInt.toNat) → (0 ≤ k.toInt ∧ k.toInt < (ez_I h 71 15).toInt → w.toInt = 5 → w.toInt = 5 → x = ez_I h 88 k.toInt.toNat) → Q (.inl (some (.int x))) h2) : pw E d 49 0 [some (.ref 71), some (.int k), some (.int w)] [] h Q := by
  have gk := z_rng k
  have gw := z_rng w
  have F := zW_refl (fun q k => q = 71 ∧ k = 0) (fun _ => False) (fun _ => False) h
  apply ez_Wp_in
  show ez_gw _ _ _ _ _ _ (cz_49) _ _ _ _ _
  refine gw_skip _ ?_
  have r1 := z_rng (ez_I h 71 0)
  refine gw_ld rfl rfl ?_
  refine z_C (m := 0) rfl rfl (fun x2 ex2 => ?_)
  refine z_pI (zT S (by decide) rfl) (fun h3 e4 => ?_)
  have S5 := zSh_set S e4
  have F6 := zW_setF F e4 (by omega)
  have f7 : ez_I h3 71 0 = x2 := zI_eq e4
  refine gw_ld rfl rfl ?_
  refine z_b1 (fun c8 => ?_) (fun c8 => ?_)
  · have c8 : k.toInt < 0 := c8
    refine gw_skip _ ?_
    refine z_C (m := -1) rfl rfl (fun x9 ex9 => ?_)
    refine z_ri ?_
    have t10 := congrArg Int32.toInt (f7)
    exact K _ _ F6 (fun q => by omega) (fun q1 q2 q3 => by exfalso; omega) (fun q1 q2 q3 => by exfalso; omega) (fun q1 q2 q3 => by exfalso; omega) (fun q1 q2 q3 => by exfalso; omega) (fun q1 q2 q3 => by exfalso; omega) (fun q1 q2 q3 => by exfalso; omega)
  · have c8 : ¬ (k.toInt < 0) := c8
    refine gw_ld rfl rfl ?_
    refine gw_ld rfl rfl ?_
    have r11 := z_rng (ez_I h 71 15)
    refine z_gI2 (by decide) (zT S5 (by decide) rfl) (zW_f F6 (fun c => c) (by decide)) ?_
    refine z_b2 (fun c12 => ?_) (fun c12 => ?_)
    · have c12 : k.toInt < ((ez_I h 71 15)).toInt := c12
      refine gw_skip _ ?_
      refine gw_ld rfl rfl ?_
      refine gw_jp rfl rfl rfl rfl rfl rfl rfl ?_
      refine ⟨fun c13 => ?_, fun c13 => ?_⟩
      · have c13 : w.toInt = 0 := congrArg Int32.toInt c13
        refine gw_skip _ ?_
        refine gw_ld rfl rfl ?_
        refine z_gR (q := 83) (zT S5 (by decide) rfl) (zRf S5 (by decide) (by decide) rfl) (by decide) ?_
        refine gw_ld rfl rfl ?_
        refine z_iaV (n := 12) (zT S5 (by decide) rfl) (zN S5 (by decide) rfl) (by omega) (zW_f F6 (fun c => c) (by omega)) ?_
        generalize ex14 : ez_I h 83 k.toInt.toNat = x14
        have rx14 := z_rng x14
        have yx14 : (ez_I h 83 k.toInt.toNat).toInt = x14.toInt := by rw [ex14]
        refine z_ri ?_
        have t15 := congrArg Int32.toInt (f7)
        exact K _ _ F6 (fun q => by omega) (fun q1 q2 q3 => by exact ex14.symm) (fun q1 q2 q3 => by exfalso; omega) (fun q1 q2 q3 => by exfalso; omega) (fun q1 q2 q3 => by exfalso; omega) (fun q1 q2 q3 => by exfalso; omega) (fun q1 q2 q3 => by exfalso; omega)
      have c13 : ¬ w.toInt = 0 := fun q => c13 (z_inj q)
      refine ⟨fun c16 => ?_, fun c16 => ?_⟩
      · have c16 : w.toInt = 1 := congrArg Int32.toInt c16
        refine gw_skip _ ?_
        refine gw_ld rfl rfl ?_
        refine z_gR (q := 84) (zT S5 (by decide) rfl) (zRf S5 (by decide) (by decide) rfl) (by decide) ?_
        refine gw_ld rfl rfl ?_
        refine z_iaV (n := 12) (zT S5 (by decide) rfl) (zN S5 (by decide) rfl) (by omega) (zW_f F6 (fun c => c) (by omega)) ?_
        generalize ex17 : ez_I h 84 k.toInt.toNat = x17
        have rx17 := z_rng x17
        have yx17 : (ez_I h 84 k.toInt.toNat).toInt = x17.toInt := by rw [ex17]
        refine z_ri ?_
        have t18 := congrArg Int32.toInt (f7)
        exact K _ _ F6 (fun q => by omega) (fun q1 q2 q3 => by exfalso; omega) (fun q1 q2 q3 => by exact ex17.symm) (fun q1 q2 q3 => by exfalso; omega) (fun q1 q2 q3 => by exfalso; omega) (fun q1 q2 q3 => by exfalso; omega) (fun q1 q2 q3 => by exfalso; omega)
      have c16 : ¬ w.toInt = 1 := fun q => c16 (z_inj q)
      refine ⟨fun c19 => ?_, fun c19 => ?_⟩
      · have c19 : w.toInt = 2 := congrArg Int32.toInt c19
        refine gw_skip _ ?_
        refine gw_ld rfl rfl ?_
        refine z_gR (q := 85) (zT S5 (by decide) rfl) (zRf S5 (by decide) (by decide) rfl) (by decide) ?_
        refine gw_ld rfl rfl ?_
        refine z_iaV (n := 12) (zT S5 (by decide) rfl) (zN S5 (by decide) rfl) (by omega) (zW_f F6 (fun c => c) (by omega)) ?_
        generalize ex20 : ez_I h 85 k.toInt.toNat = x20
        have rx20 := z_rng x20
        have yx20 : (ez_I h 85 k.toInt.toNat).toInt = x20.toInt := by rw [ex20]
        refine z_ri ?_
        have t21 := congrArg Int32.toInt (f7)
        exact K _ _ F6 (fun q => by omega) (fun q1 q2 q3 => by exfalso; omega) (fun q1 q2 q3 => by exfalso; omega) (fun q1 q2 q3 => by exact ex20.symm) (fun q1 q2 q3 => by exfalso; omega) (fun q1 q2 q3 => by exfalso; omega) (fun q1 q2 q3 => by exfalso; omega)
      have c19 : ¬ w.toInt = 2 := fun q => c19 (z_inj q)
      refine ⟨fun c22 => ?_, fun c22 => ?_⟩
      · have c22 : w.toInt = 3 := congrArg Int32.toInt c22
        refine gw_skip _ ?_
        refine gw_ld rfl rfl ?_
        refine z_gR (q := 86) (zT S5 (by decide) rfl) (zRf S5 (by decide) (by decide) rfl) (by decide) ?_
        refine gw_ld rfl rfl ?_
        refine z_iaV (n := 12) (zT S5 (by decide) rfl) (zN S5 (by decide) rfl) (by omega) (zW_f F6 (fun c => c) (by omega)) ?_
        generalize ex23 : ez_I h 86 k.toInt.toNat = x23
        have rx23 := z_rng x23
        have yx23 : (ez_I h 86 k.toInt.toNat).toInt = x23.toInt := by rw [ex23]
        refine z_ri ?_
        have t24 := congrArg Int32.toInt (f7)
        exact K _ _ F6 (fun q => by omega) (fun q1 q2 q3 => by exfalso; omega) (fun q1 q2 q3 => by exfalso; omega) (fun q1 q2 q3 => by exfalso; omega) (fun q1 q2 q3 => by exact ex23.symm) (fun q1 q2 q3 => by exfalso; omega) (fun q1 q2 q3 => by exfalso; omega)
      have c22 : ¬ w.toInt = 3 := fun q => c22 (z_inj q)
      refine ⟨fun c25 => ?_, fun c25 => ?_⟩
      · have c25 : w.toInt = 4 := congrArg Int32.toInt c25
        refine gw_skip _ ?_
        refine gw_ld rfl rfl ?_
        refine z_gR (q := 87) (zT S5 (by decide) rfl) (zRf S5 (by decide) (by decide) rfl) (by decide) ?_
        refine gw_ld rfl rfl ?_
        refine z_iaV (n := 12) (zT S5 (by decide) rfl) (zN S5 (by decide) rfl) (by omega) (zW_f F6 (fun c => c) (by omega)) ?_
        generalize ex26 : ez_I h 87 k.toInt.toNat = x26
        have rx26 := z_rng x26
        have yx26 : (ez_I h 87 k.toInt.toNat).toInt = x26.toInt := by rw [ex26]
        refine z_ri ?_
        have t27 := congrArg Int32.toInt (f7)
        exact K _ _ F6 (fun q => by omega) (fun q1 q2 q3 => by exfalso; omega) (fun q1 q2 q3 => by exfalso; omega) (fun q1 q2 q3 => by exfalso; omega) (fun q1 q2 q3 => by exfalso; omega) (fun q1 q2 q3 => by exact ex26.symm) (fun q1 q2 q3 => by exfalso; omega)
      have c25 : ¬ w.toInt = 4 := fun q => c25 (z_inj q)
      refine ⟨fun c28 => ?_, fun c28 => ?_⟩
      · have c28 : w.toInt = 5 := congrArg Int32.toInt c28
        refine gw_skip _ ?_
        refine gw_ld rfl rfl ?_
        refine z_gR (q := 88) (zT S5 (by decide) rfl) (zRf S5 (by decide) (by decide) rfl) (by decide) ?_
        refine gw_ld rfl rfl ?_
        refine z_iaV (n := 12) (zT S5 (by decide) rfl) (zN S5 (by decide) rfl) (by omega) (zW_f F6 (fun c => c) (by omega)) ?_
        generalize ex29 : ez_I h 88 k.toInt.toNat = x29
        have rx29 := z_rng x29
        have yx29 : (ez_I h 88 k.toInt.toNat).toInt = x29.toInt := by rw [ex29]
        refine z_ri ?_
        have t30 := congrArg Int32.toInt (f7)
        exact K _ _ F6 (fun q => by omega) (fun q1 q2 q3 => by exfalso; omega) (fun q1 q2 q3 => by exfalso; omega) (fun q1 q2 q3 => by exfalso; omega) (fun q1 q2 q3 => by exfalso; omega) (fun q1 q2 q3 => by exfalso; omega) (fun q1 q2 q3 => by exact ex29.symm)
      have c28 : ¬ w.toInt = 5 := fun q => c28 (z_inj q)
      refine gw_skip _ ?_
      refine z_C (m := -1) rfl rfl (fun x31 ex31 => ?_)
      refine z_ri ?_
      have t32 := congrArg Int32.toInt (f7)
      exact K _ _ F6 (fun q => by omega) (fun q1 q2 q3 => by exfalso; omega) (fun q1 q2 q3 => by exfalso; omega) (fun q1 q2 q3 => by exfalso; omega) (fun q1 q2 q3 => by exfalso; omega) (fun q1 q2 q3 => by exfalso; omega) (fun q1 q2 q3 => by exfalso; omega)
    · have c12 : ¬ (k.toInt < ((ez_I h 71 15)).toInt) := c12
      refine z_C (m := -1) rfl rfl (fun x33 ex33 => ?_)
      refine z_ri ?_
      have t34 := congrArg Int32.toInt (f7)
      exact K _ _ F6 (fun q => by omega) (fun q1 q2 q3 => by exfalso; omega) (fun q1 q2 q3 => by exfalso; omega) (fun q1 q2 q3 => by exfalso; omega) (fun q1 q2 q3 => by exfalso; omega) (fun q1 q2 q3 => by exfalso; omega) (fun q1 q2 q3 => by exfalso; omega)
