/-! PRINTED by wip/pack: a code length told by the model -/
set_option maxRecDepth 4000 in
set_option maxHeartbeats 2000000 in
theorem d_code {E : Nat → Nat × (Nat → Int32)} {d : Nat} {Q : ez_Q} {h : ez_H} {k : Int32} {w : Int32} {s : Int32} (S : zSh h) (hc : 0 ≤ (ez_I h 71 15).toInt ∧ (ez_I h 71 15).toInt ≤ 10) (K : ∀ h2 (x : Int32), zW (fun q k => q = 71 ∧ k = 0) (fun _ => False) (fun _ => False) h h2 → (¬ (0 ≤ k.toInt ∧ k.toInt < (ez_I h 71 15).toInt ∧ (ez_I h 83 k.toInt.toNat).toInt = 2 ∧ 0 ≤ s.toInt ∧ 0 ≤ w.toInt ∧ w.toInt ≤ 2) → x.toInt = -1) → (0 ≤ k.toInt ∧ k.toInt < (ez_I h 71 15).toInt ∧ (ez_I h 83 k.toInt.toNat).toInt = 2 ∧ 0 ≤ s.toInt → w.toInt = 0 → 286 ≤ s.toInt → x.toInt = -1) → (0 ≤ k.toInt ∧ k.toInt < (ez_I h 71 15).toInt ∧ (ez_I h 83 k.toInt.toNat).toInt = 2 ∧ 0 ≤ s.toInt → w.toInt = 0 → s.toInt < 286 → x = ez_I h 89 (288 * k.toInt.toNat + s.toInt.toNat)) → (0 ≤ k.toInt ∧ k.toInt < (ez_I h 71 15).toInt ∧ (ez_I h 83 k.toInt.toNat).toInt = 2 ∧ 0 ≤ s.toInt → w.toInt = 1 → 30 ≤ s.toInt → x.toInt = -1) → (0 ≤ k.toInt ∧ k.toInt < (ez_I h 71 15).toInt ∧ (ez_I h 83 k.toInt.toNat).toInt = 2 ∧ 0 ≤ s.toInt → w.toInt = 1 → s.toInt < 30 → x = ez_I h 90 (30 * k.toInt.toNat + s.toInt.toNat)) → (0 ≤ k.toInt ∧ k.toInt < (ez_I h 71 15).toInt ∧ (ez_I h 83 k.toInt.toNat).toInt = 2 ∧ 0 ≤ s.toInt → w.toInt = 2 → 19 ≤ s.toInt → x.toInt = -1) → (0 ≤ k.toInt ∧ k.toInt < (ez_I h 71 15).toInt ∧ (ez_I h 83 k.toInt.toNat).toInt = 2 ∧ 0 ≤ s.toInt → w.toInt = 2 → s.toInt < 19 → x = ez_I h 91 (19 * k.toInt.toNat + s.toInt.toNat)) → Q (.inl (some (.int x))) h2) : pw E d 50 0 [some (.ref 71), some (.int k), some (.int w), some (.int s)] [] h Q := by
  have gk := z_rng k
  have gw := z_rng w
  have gs := z_rng s
  have F := zW_refl (fun q k => q = 71 ∧ k = 0) (fun _ => False) (fun _ => False) h
  apply ez_Wp_in
  show ez_gw _ _ _ _ _ _ (cz_50) _ _ _ _ _
  refine gw_skip _ ?_
  have r1 := z_rng (ez_I h 71 0)
  refine gw_ld rfl rfl ?_
  refine z_C (m := 0) rfl rfl (fun x2 ex2 => ?_)
  refine z_pI (zT S (by decide) rfl) (fun h3 e4 => ?_)
  have S5 := zSh_set S e4
  have F6 := zW_setF F e4 (by omega)
  have f7 : ez_I h3 71 0 = x2 := zI_eq e4
  refine gw_ld rfl rfl ?_
  refine z_b1 (fun c8 => ?_) (fun c8 => ?_)
  · have c8 : k.toInt < 0 := c8
    refine gw_skip _ ?_
    refine z_C (m := -1) rfl rfl (fun x9 ex9 => ?_)
    refine z_ri ?_
    have t10 := congrArg Int32.toInt (f7)
    exact K _ _ F6 (fun q => by omega) (fun q1 q2 q3 => by omega) (fun q1 q2 q3 => by exfalso; omega) (fun q1 q2 q3 => by omega) (fun q1 q2 q3 => by exfalso; omega) (fun q1 q2 q3 => by omega) (fun q1 q2 q3 => by exfalso; omega)
  · have c8 : ¬ (k.toInt < 0) := c8
    refine gw_ld rfl rfl ?_
    refine gw_ld rfl rfl ?_
    have r11 := z_rng (ez_I h 71 15)
    refine z_gI2 (by decide) (zT S5 (by decide) rfl) (zW_f F6 (fun c => c) (by decide)) ?_
    refine z_b2 (fun c12 => ?_) (fun c12 => ?_)
    · have c12 : ((ez_I h 71 15)).toInt ≤ k.toInt := c12
      refine gw_skip _ ?_
      refine z_C (m := -1) rfl rfl (fun x13 ex13 => ?_)
      refine z_ri ?_
      have t14 := congrArg Int32.toInt (f7)
      exact K _ _ F6 (fun q => by omega) (fun q1 q2 q3 => by omega) (fun q1 q2 q3 => by exfalso; omega) (fun q1 q2 q3 => by omega) (fun q1 q2 q3 => by exfalso; omega) (fun q1 q2 q3 => by omega) (fun q1 q2 q3 => by exfalso; omega)
    · have c12 : ¬ (((ez_I h 71 15)).toInt ≤ k.toInt) := c12
      refine gw_ld rfl rfl ?_
      refine z_gR (q := 83) (zT S5 (by decide) rfl) (zRf S5 (by decide) (by decide) rfl) (by decide) ?_
      refine gw_ld rfl rfl ?_
      refine z_iaV (n := 12) (zT S5 (by decide) rfl) (zN S5 (by decide) rfl) (by omega) (zW_f F6 (fun c => c) (by omega)) ?_
      generalize ex15 : ez_I h 83 k.toInt.toNat = x15
      have rx15 := z_rng x15
      have yx15 : (ez_I h 83 k.toInt.toNat).toInt = x15.toInt := by rw [ex15]
      refine z_C (m := 2) rfl rfl (fun x16 ex16 => ?_)
      refine z_b2 (fun c17 => ?_) (fun c17 => ?_)
      · have c17 : x15.toInt ≠ x16.toInt := c17
        refine gw_skip _ ?_
        refine z_C (m := -1) rfl rfl (fun x18 ex18 => ?_)
        refine z_ri ?_
        have t19 := congrArg Int32.toInt (f7)
        exact K _ _ F6 (fun q => by omega) (fun q1 q2 q3 => by omega) (fun q1 q2 q3 => by exfalso; omega) (fun q1 q2 q3 => by omega) (fun q1 q2 q3 => by exfalso; omega) (fun q1 q2 q3 => by omega) (fun q1 q2 q3 => by exfalso; omega)
      · have c17 : ¬ (x15.toInt ≠ x16.toInt) := c17
        refine gw_ld rfl rfl ?_
        refine z_b1 (fun c20 => ?_) (fun c20 => ?_)
        · have c20 : w.toInt < 0 := c20
          refine gw_skip _ ?_
          refine z_C (m := -1) rfl rfl (fun x21 ex21 => ?_)
          refine z_ri ?_
          have t22 := congrArg Int32.toInt (f7)
          exact K _ _ F6 (fun q => by omega) (fun q1 q2 q3 => by omega) (fun q1 q2 q3 => by exfalso; omega) (fun q1 q2 q3 => by omega) (fun q1 q2 q3 => by exfalso; omega) (fun q1 q2 q3 => by omega) (fun q1 q2 q3 => by exfalso; omega)
        · have c20 : ¬ (w.toInt < 0) := c20
          refine gw_ld rfl rfl ?_
          refine z_C (m := 2) rfl rfl (fun x23 ex23 => ?_)
          refine z_b2 (fun c24 => ?_) (fun c24 => ?_)
          · have c24 : x23.toInt < w.toInt := c24
            refine gw_skip _ ?_
            refine z_C (m := -1) rfl rfl (fun x25 ex25 => ?_)
            refine z_ri ?_
            have t26 := congrArg Int32.toInt (f7)
            exact K _ _ F6 (fun q => by omega) (fun q1 q2 q3 => by omega) (fun q1 q2 q3 => by exfalso; omega) (fun q1 q2 q3 => by omega) (fun q1 q2 q3 => by exfalso; omega) (fun q1 q2 q3 => by omega) (fun q1 q2 q3 => by exfalso; omega)
          · have c24 : ¬ (x23.toInt < w.toInt) := c24
            refine gw_ld rfl rfl ?_
            refine z_b1 (fun c27 => ?_) (fun c27 => ?_)
            · have c27 : 0 ≤ s.toInt := c27
              refine gw_skip _ ?_
              refine gw_ld rfl rfl ?_
              refine z_b1 (fun c28 => ?_) (fun c28 => ?_)
              · have c28 : w.toInt ≠ 0 := c28
                refine gw_skip _ ?_
                refine gw_ld rfl rfl ?_
                refine z_C (m := 1) rfl rfl (fun x29 ex29 => ?_)
                refine z_b2 (fun c30 => ?_) (fun c30 => ?_)
                · have c30 : w.toInt ≠ x29.toInt := c30
                  refine gw_skip _ ?_
                  refine gw_ld rfl rfl ?_
                  refine z_C (m := 19) rfl rfl (fun x31 ex31 => ?_)
                  refine z_b2 (fun c32 => ?_) (fun c32 => ?_)
                  · have c32 : x31.toInt ≤ s.toInt := c32
                    refine gw_skip _ ?_
                    refine z_C (m := -1) rfl rfl (fun x33 ex33 => ?_)
                    refine z_ri ?_
                    have t34 := congrArg Int32.toInt (f7)
                    exact K _ _ F6 (fun q => by omega) (fun q1 q2 q3 => by omega) (fun q1 q2 q3 => by exfalso; omega) (fun q1 q2 q3 => by omega) (fun q1 q2 q3 => by exfalso; omega) (fun q1 q2 q3 => by omega) (fun q1 q2 q3 => by exfalso; omega)
                  · have c32 : ¬ (x31.toInt ≤ s.toInt) := c32
                    refine gw_ld rfl rfl ?_
                    refine z_gR (q := 91) (zT S5 (by decide) rfl) (zRf S5 (by decide) (by decide) rfl) (by decide) ?_
                    refine z_C (m := 19) rfl rfl (fun x35 ex35 => ?_)
                    refine gw_ld rfl rfl ?_
                    refine z_mulL (c := 19) ex35 (by omega) (fun x36 ex36 => ?_)
                    refine gw_ld rfl rfl ?_
                    refine z_add (by omega) (fun x37 ex37 => ?_)
                    refine z_iaV (n := 228) (zT S5 (by decide) rfl) (zN S5 (by decide) rfl) (by omega) (zW_f F6 (fun c => c) (by omega)) ?_
                    generalize ex38 : ez_I h 91 x37.toInt.toNat = x38
                    have rx38 := z_rng x38
                    have tx38 := ex38
                    refine z_go ?_
                    refine gw_skip _ ?_
                    refine z_ri ?_
                    have t39 := congrArg Int32.toInt (f7)
                    exact K _ _ F6 (fun q => by omega) (fun q1 q2 q3 => by omega) (fun q1 q2 q3 => by exfalso; omega) (fun q1 q2 q3 => by omega) (fun q1 q2 q3 => by exfalso; omega) (fun q1 q2 q3 => by omega) (fun q1 q2 q3 => by rw [show 19 * k.toInt.toNat + s.toInt.toNat = x37.toInt.toNat by omega]; exact ex38.symm)
                · have c30 : ¬ (w.toInt ≠ x29.toInt) := c30
                  refine gw_ld rfl rfl ?_
                  refine z_C (m := 30) rfl rfl (fun x40 ex40 => ?_)
                  refine z_b2 (fun c41 => ?_) (fun c41 => ?_)
                  · have c41 : x40.toInt ≤ s.toInt := c41
                    refine gw_skip _ ?_
                    refine z_C (m := -1) rfl rfl (fun x42 ex42 => ?_)
                    refine z_ri ?_
                    have t43 := congrArg Int32.toInt (f7)
                    exact K _ _ F6 (fun q => by omega) (fun q1 q2 q3 => by omega) (fun q1 q2 q3 => by exfalso; omega) (fun q1 q2 q3 => by omega) (fun q1 q2 q3 => by exfalso; omega) (fun q1 q2 q3 => by omega) (fun q1 q2 q3 => by exfalso; omega)
                  · have c41 : ¬ (x40.toInt ≤ s.toInt) := c41
                    refine gw_ld rfl rfl ?_
                    refine z_gR (q := 90) (zT S5 (by decide) rfl) (zRf S5 (by decide) (by decide) rfl) (by decide) ?_
                    refine z_C (m := 30) rfl rfl (fun x44 ex44 => ?_)
                    refine gw_ld rfl rfl ?_
                    refine z_mulL (c := 30) ex44 (by omega) (fun x45 ex45 => ?_)
                    refine gw_ld rfl rfl ?_
                    refine z_add (by omega) (fun x46 ex46 => ?_)
                    refine z_iaV (n := 360) (zT S5 (by decide) rfl) (zN S5 (by decide) rfl) (by omega) (zW_f F6 (fun c => c) (by omega)) ?_
                    generalize ex47 : ez_I h 90 x46.toInt.toNat = x47
                    have rx47 := z_rng x47
                    have tx47 := ex47
                    refine z_go ?_
                    refine gw_skip _ ?_
                    refine z_ri ?_
                    have t48 := congrArg Int32.toInt (f7)
                    exact K _ _ F6 (fun q => by omega) (fun q1 q2 q3 => by omega) (fun q1 q2 q3 => by exfalso; omega) (fun q1 q2 q3 => by omega) (fun q1 q2 q3 => by rw [show 30 * k.toInt.toNat + s.toInt.toNat = x46.toInt.toNat by omega]; exact ex47.symm) (fun q1 q2 q3 => by omega) (fun q1 q2 q3 => by exfalso; omega)
              · have c28 : ¬ (w.toInt ≠ 0) := c28
                refine gw_ld rfl rfl ?_
                refine z_C (m := 286) rfl rfl (fun x49 ex49 => ?_)
                refine z_b2 (fun c50 => ?_) (fun c50 => ?_)
                · have c50 : x49.toInt ≤ s.toInt := c50
                  refine gw_skip _ ?_
                  refine z_C (m := -1) rfl rfl (fun x51 ex51 => ?_)
                  refine z_ri ?_
                  have t52 := congrArg Int32.toInt (f7)
                  exact K _ _ F6 (fun q => by omega) (fun q1 q2 q3 => by omega) (fun q1 q2 q3 => by exfalso; omega) (fun q1 q2 q3 => by omega) (fun q1 q2 q3 => by exfalso; omega) (fun q1 q2 q3 => by omega) (fun q1 q2 q3 => by exfalso; omega)
                · have c50 : ¬ (x49.toInt ≤ s.toInt) := c50
                  refine gw_ld rfl rfl ?_
                  refine z_gR (q := 89) (zT S5 (by decide) rfl) (zRf S5 (by decide) (by decide) rfl) (by decide) ?_
                  refine z_C (m := 288) rfl rfl (fun x53 ex53 => ?_)
                  refine gw_ld rfl rfl ?_
                  refine z_mulL (c := 288) ex53 (by omega) (fun x54 ex54 => ?_)
                  refine gw_ld rfl rfl ?_
                  refine z_add (by omega) (fun x55 ex55 => ?_)
                  refine z_iaV (n := 3456) (zT S5 (by decide) rfl) (zN S5 (by decide) rfl) (by omega) (zW_f F6 (fun c => c) (by omega)) ?_
                  generalize ex56 : ez_I h 89 x55.toInt.toNat = x56
                  have rx56 := z_rng x56
                  have tx56 := ex56
                  refine z_go ?_
                  refine gw_skip _ ?_
                  refine z_ri ?_
                  have t57 := congrArg Int32.toInt (f7)
                  exact K _ _ F6 (fun q => by omega) (fun q1 q2 q3 => by omega) (fun q1 q2 q3 => by rw [show 288 * k.toInt.toNat + s.toInt.toNat = x55.toInt.toNat by omega]; exact ex56.symm) (fun q1 q2 q3 => by omega) (fun q1 q2 q3 => by exfalso; omega) (fun q1 q2 q3 => by omega) (fun q1 q2 q3 => by exfalso; omega)
            · have c27 : ¬ (0 ≤ s.toInt) := c27
              refine z_C (m := -1) rfl rfl (fun x58 ex58 => ?_)
              refine z_ri ?_
              have t59 := congrArg Int32.toInt (f7)
              exact K _ _ F6 (fun q => by omega) (fun q1 q2 q3 => by omega) (fun q1 q2 q3 => by exfalso; omega) (fun q1 q2 q3 => by omega) (fun q1 q2 q3 => by exfalso; omega) (fun q1 q2 q3 => by omega) (fun q1 q2 q3 => by exfalso; omega)
