section
/-! PRINTED by wip/pack: a code length told by the model -/
set_option maxRecDepth 4000 in
set_option maxHeartbeats 2000000 in
theorem d_code {E : Nat → Nat × (Nat → Int32)} {d : Nat} {Q : ez_Q} {h : ez_H} {k : Int32} {w : Int32} {s : Int32} (S : zSh h) (hc : 0 ≤ (ez_I h 71 15).toInt ∧ (ez_I h 71 15).toInt ≤ 10) (K : ∀ h2 (x : Int32), zW (fun q k => q = 71 ∧ k = 0) (fun _ => False) (fun _ => False) h h2 → (¬ (0 ≤ k.toInt ∧ k.toInt < (ez_I h 71 15).toInt ∧ (ez_I h 83 k.toInt.toNat).toInt = 2 ∧ 0 ≤ s.toInt ∧ 0 ≤ w.toInt ∧ w.toInt ≤ 2) → x.toInt = -1) → (0 ≤ k.toInt ∧ k.toInt < (ez_I h 71 15).toInt ∧ (ez_I h 83 k.toInt.toNat).toInt = 2 ∧ 0 ≤ s.toInt → w.toInt = 0 → 286 ≤ s.toInt → x.toInt = -1) → (0 ≤ k.toInt ∧ k.toInt < (ez_I h 71 15).toInt ∧ (ez_I h 83 k.toInt.toNat).toInt = 2 ∧ 0 ≤ s.toInt → w.toInt = 0 → s.toInt < 286 → x = ez_I h 89 (288 * k.toInt.toNat + s.toInt.toNat)) → (0 ≤ k.toInt ∧ k.toInt < (ez_I h 71 15).toInt ∧ (ez_I h 83 k.toInt.toNat).toInt = 2 ∧ 0 ≤ s.toInt → w.toInt = 1 → 30 ≤ s.toInt → x.toInt = -1) → (0 ≤ k.toInt ∧ k.toInt < (ez_I h 71 15).toInt ∧ (ez_I h 83 k.toInt.toNat).toInt = 2 ∧ 0 ≤ s.toInt → w.toInt = 1 → s.toInt < 30 → x = ez_I h 90 (30 * k.toInt.toNat + s.toInt.toNat)) → (0 ≤ k.toInt ∧ k.toInt < (ez_I h 71 15).toInt ∧ (ez_I h 83 k.toInt.toNat).toInt = 2 ∧ 0 ≤ s.toInt → w.toInt = 2 → 19 ≤ s.toInt → x.toInt = -1) → (0 ≤ k.toInt ∧ k.toInt < (ez_I h 71 15).toInt ∧ (ez_I h 83 k.toInt.toNat).toInt = 2 ∧ 0 ≤ s.toInt → w.toInt = 2 → s.toInt < 19 → x = ez_I h 91 (19 * k.toInt.toNat + s.toInt.toNat)) → Q (.inl (some (.int x))) h2) : pw E d 50 0 [some (.ref 71), some (.int k), some (.int w), some (.int s)] [] h Q := by
  have gk := z_rng k
  have gw := z_rng w
  have gs := z_rng s
  have F := zW_refl (fun q k => q = 71 ∧ k = 0) (fun _ => False) (fun _ => False) h
  apply ez_Wp_in
  show ez_gw _ _ _ _ _ _ (cz_50) _ _ _ _ _
  refine gw_skip _ ?_
  have r1 := z_rng (ez_I h 71 0)
  refine gw_ld rfl rfl ?_
  refine z_C (m := 0) rfl rfl (fun x2 ex2 => ?_)
  refine z_pI (zT S (by decide) rfl) (fun h3 e4 => ?_)
  have S5 := zSh_set S e4
  have F6 := zW_setF F e4 (by omega)
  have f7 : ez_I h3 71 0 = x2 := zI_eq e4
  refine gw_ld rfl rfl ?_
  refine z_b1 (fun c8 => ?_) (fun c8 => ?_)
  · have c8 : k.toInt < 0 := c8
    refine gw_skip _ ?_
    refine z_C (m := -1) rfl rfl (fun x9 ex9 => ?_)
    refine z_ri ?_
    have t10 := congrArg Int32.toInt (f7)
    exact K _ _ F6 (fun q => by omega) (fun q1 q2 q3 => by omega) (fun q1 q2 q3 => by exfalso; omega) (fun q1 q2 q3 => by omega) (fun q1 q2 q3 => by exfalso; omega) (fun q1 q2 q3 => by omega) (fun q1 q2 q3 => by exfalso; omega)
  · have c8 : ¬ (k.toInt < 0) := c8
    refine gw_ld rfl rfl ?_
    refine gw_ld rfl rfl ?_
    have r11 := z_rng (ez_I h 71 15)
    refine z_gI2 (by decide) (zT S5 (by decide) rfl) (zW_f F6 (fun c => c) (by decide)) ?_
    refine z_b2 (fun c12 => ?_) (fun c12 => ?_)
    · have c12 : ((ez_I h 71 15)).toInt ≤ k.toInt := c12
      refine gw_skip _ ?_
      refine z_C (m := -1) rfl rfl (fun x13 ex13 => ?_)
      refine z_ri ?_
      have t14 := congrArg Int32.toInt (f7)
      exact K _ _ F6 (fun q => by omega) (fun q1 q2 q3 => by omega) (fun q1 q2 q3 => by exfalso; omega) (fun q1 q2 q3 => by omega) (fun q1 q2 q3 => by exfalso; omega) (fun q1 q2 q3 => by omega) (fun q1 q2 q3 => by exfalso; omega)
    · have c12 : ¬ (((ez_I h 71 15)).toInt ≤ k.toInt) := c12
      refine gw_ld rfl rfl ?_
      refine z_gR (q := 83) (zT S5 (by decide) rfl) (zRf S5 (by decide) (by decide) rfl) (by decide) ?_
      refine gw_ld rfl rfl ?_
      refine z_iaV (n := 12) (zT S5 (by decide) rfl) (zN S5 (by decide) rfl) (by omega) (zW_f F6 (fun c => c) (by omega)) ?_
      generalize ex15 : ez_I h 83 k.toInt.toNat = x15
      have rx15 := z_rng x15
      have yx15 : (ez_I h 83 k.toInt.toNat).toInt = x15.toInt := by rw [ex15]
      refine z_C (m := 2) rfl rfl (fun x16 ex16 => ?_)
      refine z_b2 (fun c17 => ?_) (fun c17 => ?_)
      · have c17 : x15.toInt ≠ x16.toInt := c17
        refine gw_skip _ ?_
        refine z_C (m := -1) rfl rfl (fun x18 ex18 => ?_)
        refine z_ri ?_
        have t19 := congrArg Int32.toInt (f7)
        exact K _ _ F6 (fun q => by omega) (fun q1 q2 q3 => by omega) (fun q1 q2 q3 => by exfalso; omega) (fun q1 q2 q3 => by omega) (fun q1 q2 q3 => by exfalso; omega) (fun q1 q2 q3 => by omega) (fun q1 q2 q3 => by exfalso; omega)
      · have c17 : ¬ (x15.toInt ≠ x16.toInt) := c17
        refine gw_ld rfl rfl ?_
        refine z_b1 (fun c20 => ?_) (fun c20 => ?_)
        · have c20 : w.toInt < 0 := c20
          refine gw_skip _ ?_
          refine z_C (m := -1) rfl rfl (fun x21 ex21 => ?_)
          refine z_ri ?_
          have t22 := congrArg Int32.toInt (f7)
          exact K _ _ F6 (fun q => by omega) (fun q1 q2 q3 => by omega) (fun q1 q2 q3 => by exfalso; omega) (fun q1 q2 q3 => by omega) (fun q1 q2 q3 => by exfalso; omega) (fun q1 q2 q3 => by omega) (fun q1 q2 q3 => by exfalso; omega)
        · have c20 : ¬ (w.toInt < 0) := c20
          refine gw_ld rfl rfl ?_
          refine z_C (m := 2) rfl rfl (fun x23 ex23 => ?_)
          refine z_b2 (fun c24 => ?_) (fun c24 => ?_)
          · have c24 : x23.toInt < w.toInt := c24
            refine gw_skip _ ?_
            refine z_C (m := -1) rfl rfl (fun x25 ex25 => ?_)
            refine z_ri ?_
            have t26 := congrArg Int32.toInt (f7)
            exact K _ _ F6 (fun q => by omega) (fun q1 q2 q3 => by omega) (fun q1 q2 q3 => by exfalso; omega) (fun q1 q2 q3 => by omega) (fun q1 q2 q3 => by exfalso; omega) (fun q1 q2 q3 => by omega) (fun q1 q2 q3 => by exfalso; omega)
          · have c24 : ¬ (x23.toInt < w.toInt) := c24
            refine gw_ld rfl rfl ?_
            refine z_b1 (fun c27 => ?_) (fun c27 => ?_)
            · have c27 : 0 ≤ s.toInt := c27
              refine gw_skip _ ?_
              refine gw_ld rfl rfl ?_
              refine z_b1 (fun c28 => ?_) (fun c28 => ?_)
              · have c28 : w.toInt ≠ 0 := c28
                refine gw_skip _ ?_
                refine gw_ld rfl rfl ?_
                refine z_C (m := 1) rfl rfl (fun x29 ex29 => ?_)
                refine z_b2 (fun c30 => ?_) (fun c30 => ?_)
                · have c30 : w.toInt ≠ x29.toInt := c30
                  refine gw_skip _ ?_
                  refine gw_ld rfl rfl ?_
                  refine z_C (m := 19) rfl rfl (fun x31 ex31 => ?_)
                  refine z_b2 (fun c32 => ?_) (fun c32 => ?_)
                  · have c32 : x31.toInt ≤ s.toInt := c32
                    refine gw_skip _ ?_
                    refine z_C (m := -1) rfl rfl (fun x33 ex33 => ?_)
                    refine z_ri ?_
                    have t34 := congrArg Int32.toInt (f7)
                    exact K _ _ F6 (fun q => by omega) (fun q1 q2 q3 => by omega) (fun q1 q2 q3 => by exfalso; omega) (fun q1 q2 q3 => by omega) (fun q1 q2 q3 => by exfalso; omega) (fun q1 q2 q3 => by omega) (fun q1 q2 q3 => by exfalso; omega)
                  · have c32 : ¬ (x31.toInt ≤ s.toInt) := c32
                    refine gw_ld rfl rfl ?_
                    refine z_gR (q := 91) (zT S5 (by decide) rfl) (zRf S5 (by decide) (by decide) rfl) (by decide) ?_
                    refine z_C (m := 19) rfl rfl (fun x35 ex35 => ?_)
                    refine gw_ld rfl rfl ?_
                    refine z_mulL (c := 19) ex35 (by omega) (fun x36 ex36 => ?_)
                    refine gw_ld rfl rfl ?_
                    refine z_add (by omega) (fun x37 ex37 => ?_)
                    refine z_iaV (n := 228) (zT S5 (by decide) rfl) (zN S5 (by decide) rfl) (by omega) (zW_f F6 (fun c => c) (by omega)) ?_
                    generalize ex38 : ez_I h 91 x37.toInt.toNat = x38
                    have rx38 := z_rng x38
                    have tx38 := ex38
                    refine z_go ?_
                    refine gw_skip _ ?_
                    refine z_ri ?_
                    have t39 := congrArg Int32.toInt (f7)
                    exact K _ _ F6 (fun q => by omega) (fun q1 q2 q3 => by omega) (fun q1 q2 q3 => by exfalso; omega) (fun q1 q2 q3 => by omega) (fun q1 q2 q3 => by exfalso; omega) (fun q1 q2 q3 => by omega) (fun q1 q2 q3 => by rw [show 19 * k.toInt.toNat + s.toInt.toNat = x37.toInt.toNat by omega]; exact ex38.symm)
                · have c30 : ¬ (w.toInt ≠ x29.toInt) := c30
                  refine gw_ld rfl rfl ?_
                  refine z_C (m := 30) rfl rfl (fun x40 ex40 => ?_)
                  refine z_b2 (fun c41 => ?_) (fun c41 => ?_)
                  · have c41 : x40.toInt ≤ s.toInt := c41
                    refine gw_skip _ ?_
                    refine z_C (m := -1) rfl rfl (fun x42 ex42 => ?_)
                    refine z_ri ?_
                    have t43 := congrArg Int32.toInt (f7)
                    exact K _ _ F6 (fun q => by omega) (fun q1 q2 q3 => by omega) (fun q1 q2 q3 => by exfalso; omega) (fun q1 q2 q3 => by omega) (fun q1 q2 q3 => by exfalso; omega) (fun q1 q2 q3 => by omega) (fun q1 q2 q3 => by exfalso; omega)
                  · have c41 : ¬ (x40.toInt ≤ s.toInt) := c41
                    refine gw_ld rfl rfl ?_
                    refine z_gR (q := 90) (zT S5 (by decide) rfl) (zRf S5 (by decide) (by decide) rfl) (by decide) ?_
                    refine z_C (m := 30) rfl rfl (fun x44 ex44 => ?_)
                    refine gw_ld rfl rfl ?_
                    refine z_mulL (c := 30) ex44 (by omega) (fun x45 ex45 => ?_)
                    refine gw_ld rfl rfl ?_
                    refine z_add (by omega) (fun x46 ex46 => ?_)
                    refine z_iaV (n := 360) (zT S5 (by decide) rfl) (zN S5 (by decide) rfl) (by omega) (zW_f F6 (fun c => c) (by omega)) ?_
                    generalize ex47 : ez_I h 90 x46.toInt.toNat = x47
                    have rx47 := z_rng x47
                    have tx47 := ex47
                    refine z_go ?_
                    refine gw_skip _ ?_
                    refine z_ri ?_
                    have t48 := congrArg Int32.toInt (f7)
                    exact K _ _ F6 (fun q => by omega) (fun q1 q2 q3 => by omega) (fun q1 q2 q3 => by exfalso; omega) (fun q1 q2 q3 => by omega) (fun q1 q2 q3 => by rw [show 30 * k.toInt.toNat + s.toInt.toNat = x46.toInt.toNat by omega]; exact ex47.symm) (fun q1 q2 q3 => by omega) (fun q1 q2 q3 => by exfalso; omega)
              · have c28 : ¬ (w.toInt ≠ 0) := c28
                refine gw_ld rfl rfl ?_
                refine z_C (m := 286) rfl rfl (fun x49 ex49 => ?_)
                refine z_b2 (fun c50 => ?_) (fun c50 => ?_)
                · have c50 : x49.toInt ≤ s.toInt := c50
                  refine gw_skip _ ?_
                  refine z_C (m := -1) rfl rfl (fun x51 ex51 => ?_)
                  refine z_ri ?_
                  have t52 := congrArg Int32.toInt (f7)
                  exact K _ _ F6 (fun q => by omega) (fun q1 q2 q3 => by omega) (fun q1 q2 q3 => by exfalso; omega) (fun q1 q2 q3 => by omega) (fun q1 q2 q3 => by exfalso; omega) (fun q1 q2 q3 => by omega) (fun q1 q2 q3 => by exfalso; omega)
                · have c50 : ¬ (x49.toInt ≤ s.toInt) := c50
                  refine gw_ld rfl rfl ?_
                  refine z_gR (q := 89) (zT S5 (by decide) rfl) (zRf S5 (by decide) (by decide) rfl) (by decide) ?_
                  refine z_C (m := 288) rfl rfl (fun x53 ex53 => ?_)
                  refine gw_ld rfl rfl ?_
                  refine z_mulL (c := 288) ex53 (by omega) (fun x54 ex54 => ?_)
                  refine gw_ld rfl rfl ?_
                  refine z_add (by omega) (fun x55 ex55 => ?_)
                  refine z_iaV (n := 3456) (zT S5 (by decide) rfl) (zN S5 (by decide) rfl) (by omega) (zW_f F6 (fun c => c) (by omega)) ?_
                  generalize ex56 : ez_I h 89 x55.toInt.toNat = x56
                  have rx56 := z_rng x56
                  have tx56 := ex56
                  refine z_go ?_
                  refine gw_skip _ ?_
                  refine z_ri ?_
                  have t57 := congrArg Int32.toInt (f7)
                  exact K _ _ F6 (fun q => by omega) (fun q1 q2 q3 => by omega) (fun q1 q2 q3 => by rw [show 288 * k.toInt.toNat + s.toInt.toNat = x55.toInt.toNat by omega]; exact ex56.symm) (fun q1 q2 q3 => by omega) (fun q1 q2 q3 => by exfalso; omega) (fun q1 q2 q3 => by omega) (fun q1 q2 q3 => by exfalso; omega)
            · have c27 : ¬ (0 ≤ s.toInt) := c27
              refine z_C (m := -1) rfl rfl (fun x58 ex58 => ?_)
              refine z_ri ?_
              have t59 := congrArg Int32.toInt (f7)
              exact K _ _ F6 (fun q => by omega) (fun q1 q2 q3 => by omega) (fun q1 q2 q3 => by exfalso; omega) (fun q1 q2 q3 => by omega) (fun q1 q2 q3 => by exfalso; omega) (fun q1 q2 q3 => by omega) (fun q1 q2 q3 => by exfalso; omega)
end
section
/-! the class's codes told: where each begins, how many symbols -/
theorem cs_3 {n : Nat} {z : Int} (h : n < 3) (hz : z = ([286, 30, 19].getD n 0 : Nat)) : n = 0 ∧ z = 286 ∨ n = 1 ∧ z = 30 ∨ n = 2 ∧ z = 19 := by
  match n, h with
  | 0, _ => exact .inl ⟨rfl, hz⟩
  | 1, _ => exact .inr (.inl ⟨rfl, hz⟩)
  | 2, _ => exact .inr (.inr ⟨rfl, hz⟩)
theorem cf_3 {n : Nat} {z : Int} (h : n < 3) (hz : z = ([0, 286, 316].getD n 0 : Nat)) : n = 0 ∧ z = 0 ∨ n = 1 ∧ z = 286 ∨ n = 2 ∧ z = 316 := by
  match n, h with
  | 0, _ => exact .inl ⟨rfl, hz⟩
  | 1, _ => exact .inr (.inl ⟨rfl, hz⟩)
  | 2, _ => exact .inr (.inr ⟨rfl, hz⟩)
/-! PRINTED by wip/pack: a code length told by the class -/
set_option maxRecDepth 4000 in
set_option maxHeartbeats 2000000 in
theorem c_codeL {E : Nat → Nat × (Nat → Int32)} {d : Nat} {Q : ez_Q} {h : ez_H} {k : Int32} {w : Int32} {s : Int32} (S : zSh h) (hE : zE E) (hb : 0 ≤ (ez_I h 55 2).toInt ∧ (ez_I h 55 2).toInt ≤ 10) (K : ∀ x : Int32, (¬ (0 ≤ k.toInt ∧ k.toInt < (ez_I h 55 2).toInt ∧ (ez_I h 56 (6 * k.toInt.toNat)).toInt = 2 ∧ 0 ≤ s.toInt ∧ 0 ≤ w.toInt ∧ w.toInt ≤ 2) → x.toInt = -1) → (0 ≤ k.toInt ∧ k.toInt < (ez_I h 55 2).toInt ∧ (ez_I h 56 (6 * k.toInt.toNat)).toInt = 2 ∧ 0 ≤ s.toInt → w.toInt = 0 → 286 ≤ s.toInt → x.toInt = -1) → (0 ≤ k.toInt ∧ k.toInt < (ez_I h 55 2).toInt ∧ (ez_I h 56 (6 * k.toInt.toNat)).toInt = 2 ∧ 0 ≤ s.toInt → w.toInt = 0 → s.toInt < 286 → x = ez_I h 57 (335 * k.toInt.toNat + 0 + s.toInt.toNat)) → (0 ≤ k.toInt ∧ k.toInt < (ez_I h 55 2).toInt ∧ (ez_I h 56 (6 * k.toInt.toNat)).toInt = 2 ∧ 0 ≤ s.toInt → w.toInt = 1 → 30 ≤ s.toInt → x.toInt = -1) → (0 ≤ k.toInt ∧ k.toInt < (ez_I h 55 2).toInt ∧ (ez_I h 56 (6 * k.toInt.toNat)).toInt = 2 ∧ 0 ≤ s.toInt → w.toInt = 1 → s.toInt < 30 → x = ez_I h 57 (335 * k.toInt.toNat + 286 + s.toInt.toNat)) → (0 ≤ k.toInt ∧ k.toInt < (ez_I h 55 2).toInt ∧ (ez_I h 56 (6 * k.toInt.toNat)).toInt = 2 ∧ 0 ≤ s.toInt → w.toInt = 2 → 19 ≤ s.toInt → x.toInt = -1) → (0 ≤ k.toInt ∧ k.toInt < (ez_I h 55 2).toInt ∧ (ez_I h 56 (6 * k.toInt.toNat)).toInt = 2 ∧ 0 ≤ s.toInt → w.toInt = 2 → s.toInt < 19 → x = ez_I h 57 (335 * k.toInt.toNat + 316 + s.toInt.toNat)) → Q (.inl (some (.int x))) h) : pw E (d + 2) 78 0 [some (.ref 55), some (.int k), some (.int w), some (.int s)] [] h Q := by
  have gk := z_rng k
  have gw := z_rng w
  have gs := z_rng s
  have F := zW_refl (fun _ _ => False) (fun _ => False) (fun _ => False) h
  apply ez_Wp_in
  show ez_gw _ _ _ _ _ _ (cz_78) _ _ _ _ _
  refine gw_skip _ ?_
  refine gw_ld rfl rfl ?_
  refine gw_ld rfl rfl ?_
  refine z_C (m := 0) rfl rfl (fun x1 ex1 => ?_)
  refine z_cl rfl rfl rfl rfl rfl rfl rfl rfl rfl rfl rfl (zT S (by decide) rfl) ?_
  refine c_fact (k := k) (w := x1) S hb (fun x2 k3 k4 => ?_)
  have rx2 := z_rng x2
  have hf1 : 0 ≤ k.toInt ∧ k.toInt < (ez_I h 55 2).toInt → x2.toInt = (ez_I h 56 (6 * k.toInt.toNat)).toInt := fun q => by rw [k3 (by omega), show (6 * k.toInt + x1.toInt).toNat = 6 * k.toInt.toNat by omega]
  have hf2 : ¬ (0 ≤ k.toInt ∧ k.toInt < (ez_I h 55 2).toInt) → x2.toInt = -1 := fun q => k4 (by omega)
  refine z_C (m := 2) rfl rfl (fun x5 ex5 => ?_)
  refine z_b2 (fun c6 => ?_) (fun c6 => ?_)
  · have c6 : x2.toInt ≠ x5.toInt := c6
    refine gw_skip _ ?_
    refine z_C (m := -1) rfl rfl (fun x7 ex7 => ?_)
    refine z_ri ?_
    exact zW_Q F (K _ (fun q => by omega) (fun q1 q2 q3 => by omega) (fun q1 q2 q3 => by exfalso; omega) (fun q1 q2 q3 => by omega) (fun q1 q2 q3 => by exfalso; omega) (fun q1 q2 q3 => by omega) (fun q1 q2 q3 => by exfalso; omega))
  · have c6 : ¬ (x2.toInt ≠ x5.toInt) := c6
    refine gw_ld rfl rfl ?_
    refine z_b1 (fun c8 => ?_) (fun c8 => ?_)
    · have c8 : w.toInt < 0 := c8
      refine gw_skip _ ?_
      refine z_C (m := -1) rfl rfl (fun x9 ex9 => ?_)
      refine z_ri ?_
      exact zW_Q F (K _ (fun q => by omega) (fun q1 q2 q3 => by omega) (fun q1 q2 q3 => by exfalso; omega) (fun q1 q2 q3 => by omega) (fun q1 q2 q3 => by exfalso; omega) (fun q1 q2 q3 => by omega) (fun q1 q2 q3 => by exfalso; omega))
    · have c8 : ¬ (w.toInt < 0) := c8
      refine gw_ld rfl rfl ?_
      refine z_gs ?_
      refine z_alE (n := 3) (by rw [hE 9]; rfl) (by omega) (fun x10 ex10 => ?_)
      refine z_b2 (fun c11 => ?_) (fun c11 => ?_)
      · have c11 : w.toInt < x10.toInt := c11
        refine gw_skip _ ?_
        refine gw_ld rfl rfl ?_
        refine z_b1 (fun c12 => ?_) (fun c12 => ?_)
        · have c12 : s.toInt < 0 := c12
          refine gw_skip _ ?_
          refine z_C (m := -1) rfl rfl (fun x13 ex13 => ?_)
          refine z_ri ?_
          exact zW_Q F (K _ (fun q => by omega) (fun q1 q2 q3 => by omega) (fun q1 q2 q3 => by exfalso; omega) (fun q1 q2 q3 => by omega) (fun q1 q2 q3 => by exfalso; omega) (fun q1 q2 q3 => by omega) (fun q1 q2 q3 => by exfalso; omega))
        · have c12 : ¬ (s.toInt < 0) := c12
          refine gw_ld rfl rfl ?_
          refine z_gs ?_
          refine gw_ld rfl rfl ?_
          refine z_iaE (n := 3) (hE 10) (by omega) ?_
          generalize ex14 : (tz_ar (10 + 1)).getD w.toInt.toNat 0 = x14
          have rx14 := z_rng x14
          have ox14 := tz_CS (n := w.toInt.toNat) (by omega)
          rw [ex14] at ox14
          have ocx14 := cs_3 (by omega) ox14
          refine z_b2 (fun c15 => ?_) (fun c15 => ?_)
          · have c15 : s.toInt < x14.toInt := c15
            refine gw_skip _ ?_
            refine gw_ld rfl rfl ?_
            refine z_gR (q := 57) (zT S (by decide) rfl) (zRf S (by decide) (by decide) rfl) (by decide) ?_
            refine gw_ld rfl rfl ?_
            refine z_C (m := 335) rfl rfl (fun x16 ex16 => ?_)
            refine z_mulR (c := 335) ex16 (by omega) (fun x17 ex17 => ?_)
            refine z_gs ?_
            refine gw_ld rfl rfl ?_
            refine z_iaE (n := 3) (hE 9) (by omega) ?_
            generalize ex18 : (tz_ar (9 + 1)).getD w.toInt.toNat 0 = x18
            have rx18 := z_rng x18
            have ox18 := tz_CF (n := w.toInt.toNat) (by omega)
            rw [ex18] at ox18
            have ocx18 := cf_3 (by omega) ox18
            refine z_add (by omega) (fun x19 ex19 => ?_)
            refine gw_ld rfl rfl ?_
            refine z_add (by omega) (fun x20 ex20 => ?_)
            refine z_iaV (n := 3350) (zT S (by decide) rfl) (zN S (by decide) rfl) (by omega) (zW_f F (fun c => c) (fun c => c)) ?_
            generalize ex21 : ez_I h 57 x20.toInt.toNat = x21
            have rx21 := z_rng x21
            have tx21 := ex21
            refine z_ri ?_
            exact zW_Q F (K _ (fun q => by omega) (fun q1 q2 q3 => by omega) (fun q1 q2 q3 => by rw [show 335 * k.toInt.toNat + 0 + s.toInt.toNat = x20.toInt.toNat by omega]; exact ex21.symm) (fun q1 q2 q3 => by omega) (fun q1 q2 q3 => by rw [show 335 * k.toInt.toNat + 286 + s.toInt.toNat = x20.toInt.toNat by omega]; exact ex21.symm) (fun q1 q2 q3 => by omega) (fun q1 q2 q3 => by rw [show 335 * k.toInt.toNat + 316 + s.toInt.toNat = x20.toInt.toNat by omega]; exact ex21.symm))
          · have c15 : ¬ (s.toInt < x14.toInt) := c15
            refine z_C (m := -1) rfl rfl (fun x22 ex22 => ?_)
            refine z_ri ?_
            exact zW_Q F (K _ (fun q => by omega) (fun q1 q2 q3 => by omega) (fun q1 q2 q3 => by exfalso; omega) (fun q1 q2 q3 => by omega) (fun q1 q2 q3 => by exfalso; omega) (fun q1 q2 q3 => by omega) (fun q1 q2 q3 => by exfalso; omega))
      · have c11 : ¬ (w.toInt < x10.toInt) := c11
        refine z_C (m := -1) rfl rfl (fun x23 ex23 => ?_)
        refine z_ri ?_
        exact zW_Q F (K _ (fun q => by omega) (fun q1 q2 q3 => by omega) (fun q1 q2 q3 => by exfalso; omega) (fun q1 q2 q3 => by omega) (fun q1 q2 q3 => by exfalso; omega) (fun q1 q2 q3 => by omega) (fun q1 q2 q3 => by exfalso; omega))
set_option maxRecDepth 4000 in
set_option maxHeartbeats 2000000 in
theorem x_codeF {E : Nat → Nat × (Nat → Int32)} {d : Nat} {Q : ez_Q} {h : ez_H} {k : Int32} {w : Int32} {s : Int32} (S : zSh h) (hE : zE E) (hb : 0 ≤ (ez_I h 55 2).toInt ∧ (ez_I h 55 2).toInt ≤ 10) (K : ∀ x : Int32, (¬ (0 ≤ k.toInt ∧ k.toInt < (ez_I h 55 2).toInt ∧ (ez_I h 56 (6 * k.toInt.toNat)).toInt = 2 ∧ 0 ≤ s.toInt ∧ 0 ≤ w.toInt ∧ w.toInt ≤ 2) → x.toInt = -1) → (0 ≤ k.toInt ∧ k.toInt < (ez_I h 55 2).toInt ∧ (ez_I h 56 (6 * k.toInt.toNat)).toInt = 2 ∧ 0 ≤ s.toInt → w.toInt = 0 → 286 ≤ s.toInt → x.toInt = -1) → (0 ≤ k.toInt ∧ k.toInt < (ez_I h 55 2).toInt ∧ (ez_I h 56 (6 * k.toInt.toNat)).toInt = 2 ∧ 0 ≤ s.toInt → w.toInt = 0 → s.toInt < 286 → x = ez_I h 57 (335 * k.toInt.toNat + 0 + s.toInt.toNat)) → (0 ≤ k.toInt ∧ k.toInt < (ez_I h 55 2).toInt ∧ (ez_I h 56 (6 * k.toInt.toNat)).toInt = 2 ∧ 0 ≤ s.toInt → w.toInt = 1 → 30 ≤ s.toInt → x.toInt = -1) → (0 ≤ k.toInt ∧ k.toInt < (ez_I h 55 2).toInt ∧ (ez_I h 56 (6 * k.toInt.toNat)).toInt = 2 ∧ 0 ≤ s.toInt → w.toInt = 1 → s.toInt < 30 → x = ez_I h 57 (335 * k.toInt.toNat + 286 + s.toInt.toNat)) → (0 ≤ k.toInt ∧ k.toInt < (ez_I h 55 2).toInt ∧ (ez_I h 56 (6 * k.toInt.toNat)).toInt = 2 ∧ 0 ≤ s.toInt → w.toInt = 2 → 19 ≤ s.toInt → x.toInt = -1) → (0 ≤ k.toInt ∧ k.toInt < (ez_I h 55 2).toInt ∧ (ez_I h 56 (6 * k.toInt.toNat)).toInt = 2 ∧ 0 ≤ s.toInt → w.toInt = 2 → s.toInt < 19 → x = ez_I h 57 (335 * k.toInt.toNat + 316 + s.toInt.toNat)) → Q (.inl (some (.int x))) h) : pw E (d + 3) 12 0 [some (.ref 1), some (.int k), some (.int w), some (.int s)] [] h Q := by
  have gk := z_rng k
  have gw := z_rng w
  have gs := z_rng s
  have F := zW_refl (fun _ _ => False) (fun _ => False) (fun _ => False) h
  apply ez_Wp_in
  show ez_gw _ _ _ _ _ _ (cz_12) _ _ _ _ _
  refine gw_skip _ ?_
  refine gw_ld rfl rfl ?_
  refine z_gR (q := 52) (zT S (by decide) rfl) (zRf S (by decide) (by decide) rfl) (by decide) ?_
  refine z_gR (q := 55) (zT S (by decide) rfl) (zRf S (by decide) (by decide) rfl) (by decide) ?_
  refine gw_ld rfl rfl ?_
  refine gw_ld rfl rfl ?_
  refine gw_ld rfl rfl ?_
  refine z_cl rfl rfl rfl rfl rfl rfl rfl rfl rfl rfl rfl (zT S (by decide) rfl) ?_
  refine c_codeL (k := k) (w := w) (s := s) S hE hb (fun x1 k2 k3 k4 k5 k6 k7 k8 => ?_)
  have rx1 := z_rng x1
  refine z_ri ?_
  exact zW_Q F (K _ k2 k3 k4 k5 k6 k7 k8)
end
section
/-! PRINTED by wip/pack: a part, a block told by the model -/
set_option maxRecDepth 4000 in
set_option maxHeartbeats 2000000 in
theorem d_part {E : Nat → Nat × (Nat → Int32)} {d : Nat} {Q : ez_Q} {h : ez_H} {k : Int32} {w : Int32} (S : zSh h) (hc : 0 ≤ (ez_I h 71 14).toInt ∧ (ez_I h 71 14).toInt ≤ 6000) (K : ∀ h2 (x : Int32), zW (fun q k => q = 71 ∧ k = 0) (fun _ => False) (fun _ => False) h h2 → (¬ (0 ≤ k.toInt ∧ k.toInt < (ez_I h 71 14).toInt ∧ 0 ≤ w.toInt ∧ w.toInt ≤ 2) → x.toInt = -1) → (0 ≤ k.toInt ∧ k.toInt < (ez_I h 71 14).toInt → w.toInt = 0 → (ez_I h 78 k.toInt.toNat).toInt = 0 → x = ez_I h 79 k.toInt.toNat) → (0 ≤ k.toInt ∧ k.toInt < (ez_I h 71 14).toInt → w.toInt = 0 → (ez_I h 78 k.toInt.toNat).toInt ≠ 0 → x = ez_I h 77 k.toInt.toNat) → (0 ≤ k.toInt ∧ k.toInt < (ez_I h 71 14).toInt → w.toInt = 1 → w.toInt = 1 → x = ez_I h 78 k.toInt.toNat) → (0 ≤ k.toInt ∧ k.toInt < (ez_I h 71 14).toInt → w.toInt = 2 → w.toInt = 2 → x = ez_I h 80 k.toInt.toNat) → Q (.inl (some (.int x))) h2) : pw E d 47 0 [some (.ref 71), some (.int k), some (.int w)] [] h Q := by
  have gk := z_rng k
  have gw := z_rng w
  have F := zW_refl (fun q k => q = 71 ∧ k = 0) (fun _ => False) (fun _ => False) h
  apply ez_Wp_in
  show ez_gw _ _ _ _ _ _ (cz_47) _ _ _ _ _
  refine gw_skip _ ?_
  have r1 := z_rng (ez_I h 71 0)
  refine gw_ld rfl rfl ?_
  refine z_C (m := 0) rfl rfl (fun x2 ex2 => ?_)
  refine z_pI (zT S (by decide) rfl) (fun h3 e4 => ?_)
  have S5 := zSh_set S e4
  have F6 := zW_setF F e4 (by omega)
  have f7 : ez_I h3 71 0 = x2 := zI_eq e4
  refine gw_ld rfl rfl ?_
  refine z_b1 (fun c8 => ?_) (fun c8 => ?_)
  · have c8 : k.toInt < 0 := c8
    refine gw_skip _ ?_
    refine z_C (m := -1) rfl rfl (fun x9 ex9 => ?_)
    refine z_ri ?_
    have t10 := congrArg Int32.toInt (f7)
    exact K _ _ F6 (fun q => by omega) (fun q1 q2 q3 => by exfalso; omega) (fun q1 q2 q3 => by exfalso; omega) (fun q1 q2 q3 => by exfalso; omega) (fun q1 q2 q3 => by exfalso; omega)
  · have c8 : ¬ (k.toInt < 0) := c8
    refine gw_ld rfl rfl ?_
    refine gw_ld rfl rfl ?_
    have r11 := z_rng (ez_I h 71 14)
    refine z_gI2 (by decide) (zT S5 (by decide) rfl) (zW_f F6 (fun c => c) (by decide)) ?_
    refine z_b2 (fun c12 => ?_) (fun c12 => ?_)
    · have c12 : k.toInt < ((ez_I h 71 14)).toInt := c12
      refine gw_skip _ ?_
      refine gw_ld rfl rfl ?_
      refine z_b1 (fun c13 => ?_) (fun c13 => ?_)
      · have c13 : w.toInt ≠ 0 := c13
        refine gw_skip _ ?_
        refine gw_ld rfl rfl ?_
        refine z_C (m := 1) rfl rfl (fun x14 ex14 => ?_)
        refine z_b2 (fun c15 => ?_) (fun c15 => ?_)
        · have c15 : w.toInt ≠ x14.toInt := c15
          refine gw_skip _ ?_
          refine gw_ld rfl rfl ?_
          refine z_C (m := 2) rfl rfl (fun x16 ex16 => ?_)
          refine z_b2 (fun c17 => ?_) (fun c17 => ?_)
          · have c17 : w.toInt ≠ x16.toInt := c17
            refine gw_skip _ ?_
            refine z_C (m := -1) rfl rfl (fun x18 ex18 => ?_)
            refine z_ri ?_
            have t19 := congrArg Int32.toInt (f7)
            exact K _ _ F6 (fun q => by omega) (fun q1 q2 q3 => by exfalso; omega) (fun q1 q2 q3 => by exfalso; omega) (fun q1 q2 q3 => by exfalso; omega) (fun q1 q2 q3 => by exfalso; omega)
          · have c17 : ¬ (w.toInt ≠ x16.toInt) := c17
            refine gw_ld rfl rfl ?_
            refine z_gR (q := 80) (zT S5 (by decide) rfl) (zRf S5 (by decide) (by decide) rfl) (by decide) ?_
            refine gw_ld rfl rfl ?_
            refine z_iaV (n := 6000) (zT S5 (by decide) rfl) (zN S5 (by decide) rfl) (by omega) (zW_f F6 (fun c => c) (by omega)) ?_
            generalize ex20 : ez_I h 80 k.toInt.toNat = x20
            have rx20 := z_rng x20
            have yx20 : (ez_I h 80 k.toInt.toNat).toInt = x20.toInt := by rw [ex20]
            refine z_go ?_
            refine gw_skip _ ?_
            refine z_ri ?_
            have t21 := congrArg Int32.toInt (f7)
            exact K _ _ F6 (fun q => by omega) (fun q1 q2 q3 => by exfalso; omega) (fun q1 q2 q3 => by exfalso; omega) (fun q1 q2 q3 => by exfalso; omega) (fun q1 q2 q3 => by exact ex20.symm)
        · have c15 : ¬ (w.toInt ≠ x14.toInt) := c15
          refine gw_ld rfl rfl ?_
          refine z_gR (q := 78) (zT S5 (by decide) rfl) (zRf S5 (by decide) (by decide) rfl) (by decide) ?_
          refine gw_ld rfl rfl ?_
          refine z_iaV (n := 6000) (zT S5 (by decide) rfl) (zN S5 (by decide) rfl) (by omega) (zW_f F6 (fun c => c) (by omega)) ?_
          generalize ex22 : ez_I h 78 k.toInt.toNat = x22
          have rx22 := z_rng x22
          have yx22 : (ez_I h 78 k.toInt.toNat).toInt = x22.toInt := by rw [ex22]
          refine z_go ?_
          refine gw_skip _ ?_
          refine z_ri ?_
          have t23 := congrArg Int32.toInt (f7)
          exact K _ _ F6 (fun q => by omega) (fun q1 q2 q3 => by exfalso; omega) (fun q1 q2 q3 => by exfalso; omega) (fun q1 q2 q3 => by exact ex22.symm) (fun q1 q2 q3 => by exfalso; omega)
      · have c13 : ¬ (w.toInt ≠ 0) := c13
        refine gw_ld rfl rfl ?_
        refine z_gR (q := 78) (zT S5 (by decide) rfl) (zRf S5 (by decide) (by decide) rfl) (by decide) ?_
        refine gw_ld rfl rfl ?_
        refine z_iaV (n := 6000) (zT S5 (by decide) rfl) (zN S5 (by decide) rfl) (by omega) (zW_f F6 (fun c => c) (by omega)) ?_
        generalize ex24 : ez_I h 78 k.toInt.toNat = x24
        have rx24 := z_rng x24
        have yx24 : (ez_I h 78 k.toInt.toNat).toInt = x24.toInt := by rw [ex24]
        refine z_b1 (fun c25 => ?_) (fun c25 => ?_)
        · have c25 : x24.toInt ≠ 0 := c25
          refine gw_skip _ ?_
          refine gw_ld rfl rfl ?_
          refine z_gR (q := 77) (zT S5 (by decide) rfl) (zRf S5 (by decide) (by decide) rfl) (by decide) ?_
          refine gw_ld rfl rfl ?_
          refine z_iaV (n := 6000) (zT S5 (by decide) rfl) (zN S5 (by decide) rfl) (by omega) (zW_f F6 (fun c => c) (by omega)) ?_
          generalize ex26 : ez_I h 77 k.toInt.toNat = x26
          have rx26 := z_rng x26
          have yx26 : (ez_I h 77 k.toInt.toNat).toInt = x26.toInt := by rw [ex26]
          refine z_go ?_
          refine gw_skip _ ?_
          refine z_ri ?_
          have t27 := congrArg Int32.toInt (f7)
          exact K _ _ F6 (fun q => by omega) (fun q1 q2 q3 => by exfalso; omega) (fun q1 q2 q3 => by exact ex26.symm) (fun q1 q2 q3 => by exfalso; omega) (fun q1 q2 q3 => by exfalso; omega)
        · have c25 : ¬ (x24.toInt ≠ 0) := c25
          refine gw_ld rfl rfl ?_
          refine z_gR (q := 79) (zT S5 (by decide) rfl) (zRf S5 (by decide) (by decide) rfl) (by decide) ?_
          refine gw_ld rfl rfl ?_
          refine z_iaV (n := 6000) (zT S5 (by decide) rfl) (zN S5 (by decide) rfl) (by omega) (zW_f F6 (fun c => c) (by omega)) ?_
          generalize ex28 : ez_I h 79 k.toInt.toNat = x28
          have rx28 := z_rng x28
          have yx28 : (ez_I h 79 k.toInt.toNat).toInt = x28.toInt := by rw [ex28]
          refine z_go ?_
          refine gw_skip _ ?_
          refine z_ri ?_
          have t29 := congrArg Int32.toInt (f7)
          exact K _ _ F6 (fun q => by omega) (fun q1 q2 q3 => by exact ex28.symm) (fun q1 q2 q3 => by exfalso; omega) (fun q1 q2 q3 => by exfalso; omega) (fun q1 q2 q3 => by exfalso; omega)
    · have c12 : ¬ (k.toInt < ((ez_I h 71 14)).toInt) := c12
      refine z_C (m := -1) rfl rfl (fun x30 ex30 => ?_)
      refine z_ri ?_
      have t31 := congrArg Int32.toInt (f7)
      exact K _ _ F6 (fun q => by omega) (fun q1 q2 q3 => by exfalso; omega) (fun q1 q2 q3 => by exfalso; omega) (fun q1 q2 q3 => by exfalso; omega) (fun q1 q2 q3 => by exfalso; omega)
set_option maxRecDepth 4000 in
set_option maxHeartbeats 2000000 in
theorem d_block {E : Nat → Nat × (Nat → Int32)} {d : Nat} {Q : ez_Q} {h : ez_H} {k : Int32} {w : Int32} (S : zSh h) (hc : 0 ≤ (ez_I h 71 15).toInt ∧ (ez_I h 71 15).toInt ≤ 10) (K : ∀ h2 (x : Int32), zW (fun q k => q = 71 ∧ k = 0) (fun _ => False) (fun _ => False) h h2 → (¬ (0 ≤ k.toInt ∧ k.toInt < (ez_I h 71 15).toInt ∧ 0 ≤ w.toInt ∧ w.toInt ≤ 5) → x.toInt = -1) → (0 ≤ k.toInt ∧ k.toInt < (ez_I h 71 15).toInt → w.toInt = 0 → w.toInt = 0 → x = ez_I h 83 k.toInt.toNat) → (0 ≤ k.toInt ∧ k.toInt < (ez_I h 71 15).toInt → w.toInt = 1 → w.toInt = 1 → x = ez_I h 84 k.toInt.toNat) → (0 ≤ k.toInt ∧ k.toInt < (ez_I h 71 15).toInt → w.toInt = 2 → w.toInt = 2 → x = ez_I h 85 k.toInt.toNat) → (0 ≤ k.toInt ∧ k.toInt < (ez_I h 71 15).toInt → w.toInt = 3 → w.toInt = 3 → x = ez_I h 86 k.toInt.toNat) → (0 ≤ k.toInt ∧ k.toInt < (ez_I h 71 15).toInt → w.toInt = 4 → w.toInt = 4 → x = ez_I h 87 k.toInt.toNat) → (0 ≤ k.toInt ∧ k.toInt < (ez_I h 71 15).toInt → w.toInt = 5 → w.toInt = 5 → x = ez_I h 88 k.toInt.toNat) → Q (.inl (some (.int x))) h2) : pw E d 49 0 [some (.ref 71), some (.int k), some (.int w)] [] h Q := by
  have gk := z_rng k
  have gw := z_rng w
  have F := zW_refl (fun q k => q = 71 ∧ k = 0) (fun _ => False) (fun _ => False) h
  apply ez_Wp_in
  show ez_gw _ _ _ _ _ _ (cz_49) _ _ _ _ _
  refine gw_skip _ ?_
  have r1 := z_rng (ez_I h 71 0)
  refine gw_ld rfl rfl ?_
  refine z_C (m := 0) rfl rfl (fun x2 ex2 => ?_)
  refine z_pI (zT S (by decide) rfl) (fun h3 e4 => ?_)
  have S5 := zSh_set S e4
  have F6 := zW_setF F e4 (by omega)
  have f7 : ez_I h3 71 0 = x2 := zI_eq e4
  refine gw_ld rfl rfl ?_
  refine z_b1 (fun c8 => ?_) (fun c8 => ?_)
  · have c8 : k.toInt < 0 := c8
    refine gw_skip _ ?_
    refine z_C (m := -1) rfl rfl (fun x9 ex9 => ?_)
    refine z_ri ?_
    have t10 := congrArg Int32.toInt (f7)
    exact K _ _ F6 (fun q => by omega) (fun q1 q2 q3 => by exfalso; omega) (fun q1 q2 q3 => by exfalso; omega) (fun q1 q2 q3 => by exfalso; omega) (fun q1 q2 q3 => by exfalso; omega) (fun q1 q2 q3 => by exfalso; omega) (fun q1 q2 q3 => by exfalso; omega)
  · have c8 : ¬ (k.toInt < 0) := c8
    refine gw_ld rfl rfl ?_
    refine gw_ld rfl rfl ?_
    have r11 := z_rng (ez_I h 71 15)
    refine z_gI2 (by decide) (zT S5 (by decide) rfl) (zW_f F6 (fun c => c) (by decide)) ?_
    refine z_b2 (fun c12 => ?_) (fun c12 => ?_)
    · have c12 : k.toInt < ((ez_I h 71 15)).toInt := c12
      refine gw_skip _ ?_
      refine gw_ld rfl rfl ?_
      refine gw_jp rfl rfl rfl rfl rfl rfl rfl ?_
      refine ⟨fun c13 => ?_, fun c13 => ?_⟩
      · have c13 : w.toInt = 0 := congrArg Int32.toInt c13
        refine gw_skip _ ?_
        refine gw_ld rfl rfl ?_
        refine z_gR (q := 83) (zT S5 (by decide) rfl) (zRf S5 (by decide) (by decide) rfl) (by decide) ?_
        refine gw_ld rfl rfl ?_
        refine z_iaV (n := 12) (zT S5 (by decide) rfl) (zN S5 (by decide) rfl) (by omega) (zW_f F6 (fun c => c) (by omega)) ?_
        generalize ex14 : ez_I h 83 k.toInt.toNat = x14
        have rx14 := z_rng x14
        have yx14 : (ez_I h 83 k.toInt.toNat).toInt = x14.toInt := by rw [ex14]
        refine z_ri ?_
        have t15 := congrArg Int32.toInt (f7)
        exact K _ _ F6 (fun q => by omega) (fun q1 q2 q3 => by exact ex14.symm) (fun q1 q2 q3 => by exfalso; omega) (fun q1 q2 q3 => by exfalso; omega) (fun q1 q2 q3 => by exfalso; omega) (fun q1 q2 q3 => by exfalso; omega) (fun q1 q2 q3 => by exfalso; omega)
      have c13 : ¬ w.toInt = 0 := fun q => c13 (z_inj q)
      refine ⟨fun c16 => ?_, fun c16 => ?_⟩
      · have c16 : w.toInt = 1 := congrArg Int32.toInt c16
        refine gw_skip _ ?_
        refine gw_ld rfl rfl ?_
        refine z_gR (q := 84) (zT S5 (by decide) rfl) (zRf S5 (by decide) (by decide) rfl) (by decide) ?_
        refine gw_ld rfl rfl ?_
        refine z_iaV (n := 12) (zT S5 (by decide) rfl) (zN S5 (by decide) rfl) (by omega) (zW_f F6 (fun c => c) (by omega)) ?_
        generalize ex17 : ez_I h 84 k.toInt.toNat = x17
        have rx17 := z_rng x17
        have yx17 : (ez_I h 84 k.toInt.toNat).toInt = x17.toInt := by rw [ex17]
        refine z_ri ?_
        have t18 := congrArg Int32.toInt (f7)
        exact K _ _ F6 (fun q => by omega) (fun q1 q2 q3 => by exfalso; omega) (fun q1 q2 q3 => by exact ex17.symm) (fun q1 q2 q3 => by exfalso; omega) (fun q1 q2 q3 => by exfalso; omega) (fun q1 q2 q3 => by exfalso; omega) (fun q1 q2 q3 => by exfalso; omega)
      have c16 : ¬ w.toInt = 1 := fun q => c16 (z_inj q)
      refine ⟨fun c19 => ?_, fun c19 => ?_⟩
      · have c19 : w.toInt = 2 := congrArg Int32.toInt c19
        refine gw_skip _ ?_
        refine gw_ld rfl rfl ?_
        refine z_gR (q := 85) (zT S5 (by decide) rfl) (zRf S5 (by decide) (by decide) rfl) (by decide) ?_
        refine gw_ld rfl rfl ?_
        refine z_iaV (n := 12) (zT S5 (by decide) rfl) (zN S5 (by decide) rfl) (by omega) (zW_f F6 (fun c => c) (by omega)) ?_
        generalize ex20 : ez_I h 85 k.toInt.toNat = x20
        have rx20 := z_rng x20
        have yx20 : (ez_I h 85 k.toInt.toNat).toInt = x20.toInt := by rw [ex20]
        refine z_ri ?_
        have t21 := congrArg Int32.toInt (f7)
        exact K _ _ F6 (fun q => by omega) (fun q1 q2 q3 => by exfalso; omega) (fun q1 q2 q3 => by exfalso; omega) (fun q1 q2 q3 => by exact ex20.symm) (fun q1 q2 q3 => by exfalso; omega) (fun q1 q2 q3 => by exfalso; omega) (fun q1 q2 q3 => by exfalso; omega)
      have c19 : ¬ w.toInt = 2 := fun q => c19 (z_inj q)
      refine ⟨fun c22 => ?_, fun c22 => ?_⟩
      · have c22 : w.toInt = 3 := congrArg Int32.toInt c22
        refine gw_skip _ ?_
        refine gw_ld rfl rfl ?_
        refine z_gR (q := 86) (zT S5 (by decide) rfl) (zRf S5 (by decide) (by decide) rfl) (by decide) ?_
        refine gw_ld rfl rfl ?_
        refine z_iaV (n := 12) (zT S5 (by decide) rfl) (zN S5 (by decide) rfl) (by omega) (zW_f F6 (fun c => c) (by omega)) ?_
        generalize ex23 : ez_I h 86 k.toInt.toNat = x23
        have rx23 := z_rng x23
        have yx23 : (ez_I h 86 k.toInt.toNat).toInt = x23.toInt := by rw [ex23]
        refine z_ri ?_
        have t24 := congrArg Int32.toInt (f7)
        exact K _ _ F6 (fun q => by omega) (fun q1 q2 q3 => by exfalso; omega) (fun q1 q2 q3 => by exfalso; omega) (fun q1 q2 q3 => by exfalso; omega) (fun q1 q2 q3 => by exact ex23.symm) (fun q1 q2 q3 => by exfalso; omega) (fun q1 q2 q3 => by exfalso; omega)
      have c22 : ¬ w.toInt = 3 := fun q => c22 (z_inj q)
      refine ⟨fun c25 => ?_, fun c25 => ?_⟩
      · have c25 : w.toInt = 4 := congrArg Int32.toInt c25
        refine gw_skip _ ?_
        refine gw_ld rfl rfl ?_
        refine z_gR (q := 87) (zT S5 (by decide) rfl) (zRf S5 (by decide) (by decide) rfl) (by decide) ?_
        refine gw_ld rfl rfl ?_
        refine z_iaV (n := 12) (zT S5 (by decide) rfl) (zN S5 (by decide) rfl) (by omega) (zW_f F6 (fun c => c) (by omega)) ?_
        generalize ex26 : ez_I h 87 k.toInt.toNat = x26
        have rx26 := z_rng x26
        have yx26 : (ez_I h 87 k.toInt.toNat).toInt = x26.toInt := by rw [ex26]
        refine z_ri ?_
        have t27 := congrArg Int32.toInt (f7)
        exact K _ _ F6 (fun q => by omega) (fun q1 q2 q3 => by exfalso; omega) (fun q1 q2 q3 => by exfalso; omega) (fun q1 q2 q3 => by exfalso; omega) (fun q1 q2 q3 => by exfalso; omega) (fun q1 q2 q3 => by exact ex26.symm) (fun q1 q2 q3 => by exfalso; omega)
      have c25 : ¬ w.toInt = 4 := fun q => c25 (z_inj q)
      refine ⟨fun c28 => ?_, fun c28 => ?_⟩
      · have c28 : w.toInt = 5 := congrArg Int32.toInt c28
        refine gw_skip _ ?_
        refine gw_ld rfl rfl ?_
        refine z_gR (q := 88) (zT S5 (by decide) rfl) (zRf S5 (by decide) (by decide) rfl) (by decide) ?_
        refine gw_ld rfl rfl ?_
        refine z_iaV (n := 12) (zT S5 (by decide) rfl) (zN S5 (by decide) rfl) (by omega) (zW_f F6 (fun c => c) (by omega)) ?_
        generalize ex29 : ez_I h 88 k.toInt.toNat = x29
        have rx29 := z_rng x29
        have yx29 : (ez_I h 88 k.toInt.toNat).toInt = x29.toInt := by rw [ex29]
        refine z_ri ?_
        have t30 := congrArg Int32.toInt (f7)
        exact K _ _ F6 (fun q => by omega) (fun q1 q2 q3 => by exfalso; omega) (fun q1 q2 q3 => by exfalso; omega) (fun q1 q2 q3 => by exfalso; omega) (fun q1 q2 q3 => by exfalso; omega) (fun q1 q2 q3 => by exfalso; omega) (fun q1 q2 q3 => by exact ex29.symm)
      have c28 : ¬ w.toInt = 5 := fun q => c28 (z_inj q)
      refine gw_skip _ ?_
      refine z_C (m := -1) rfl rfl (fun x31 ex31 => ?_)
      refine z_ri ?_
      have t32 := congrArg Int32.toInt (f7)
      exact K _ _ F6 (fun q => by omega) (fun q1 q2 q3 => by exfalso; omega) (fun q1 q2 q3 => by exfalso; omega) (fun q1 q2 q3 => by exfalso; omega) (fun q1 q2 q3 => by exfalso; omega) (fun q1 q2 q3 => by exfalso; omega) (fun q1 q2 q3 => by exfalso; omega)
    · have c12 : ¬ (k.toInt < ((ez_I h 71 15)).toInt) := c12
      refine z_C (m := -1) rfl rfl (fun x33 ex33 => ?_)
      refine z_ri ?_
      have t34 := congrArg Int32.toInt (f7)
      exact K _ _ F6 (fun q => by omega) (fun q1 q2 q3 => by exfalso; omega) (fun q1 q2 q3 => by exfalso; omega) (fun q1 q2 q3 => by exfalso; omega) (fun q1 q2 q3 => by exfalso; omega) (fun q1 q2 q3 => by exfalso; omega) (fun q1 q2 q3 => by exfalso; omega)
end
section
/-! a code of one bit at most: the class's way and the model's sum of lengths -/
noncomputable def smN (L : Nat → Nat) : Nat → Nat
  | 0 => 0
  | n + 1 => smN L n + L n
noncomputable def czN (L : Nat → Nat) : Nat → Nat
  | 0 => 0
  | n + 1 => czN L n + if 1 ≤ L n then 1 else 0
theorem pl_0 (L : Nat → Nat) : ∀ l, plN L 0 l = 0 := by
  intro l
  induction l with
  | zero => rfl
  | succ l ih =>
    by_cases q : l = 0
    · rw [q]; rfl
    · rw [plN_s (by omega), ih]; rfl
theorem pl_up (L : Nat → Nat) (n : Nat) : ∀ l, plN L (n + 1) l = plN L n l + if 1 ≤ L n ∧ L n < l then 1 else 0 := by
  intro l
  induction l with
  | zero => rw [if_neg (by omega)]; rfl
  | succ l ih =>
    by_cases q : l = 0
    · rw [q, if_neg (by omega)]; rfl
    · rw [plN_s (by omega), plN_s (by omega), ih]
      by_cases e : L n = l
      · rw [ctN_y e, if_neg (by omega), if_pos (by omega)]; omega
      · rw [ctN_n e]
        by_cases q2 : 1 ≤ L n ∧ L n < l
        · rw [if_pos q2, if_pos (by omega)]; omega
        · rw [if_neg q2, if_neg (by omega)]; omega
theorem pl_cz {L : Nat → Nat} : ∀ n, (∀ k, k < n → L k ≤ 15) → plN L n 16 = czN L n := by
  intro n
  induction n with
  | zero => intro _; exact pl_0 L 16
  | succ n ih =>
    intro h
    have h1 := h n (by omega)
    rw [pl_up, ih (fun k hk => h k (by omega))]
    show _ = czN L n + _
    by_cases q : 1 ≤ L n
    · rw [if_pos q, if_pos (by omega)]
    · rw [if_neg q, if_neg (by omega)]
theorem sm_all {L : Nat → Nat} : ∀ n, (∀ k, k < n → L k ≤ 15) → czN L n ≤ smN L n ∧ ctN L 1 n ≤ czN L n ∧ 2 * czN L n ≤ smN L n + ctN L 1 n ∧ smN L n + 14 * ctN L 1 n ≤ 15 * czN L n := by
  intro n
  induction n with
  | zero => intro _; exact ⟨Nat.le_refl 0, Nat.le_refl 0, Nat.le_refl 0, Nat.le_refl 0⟩
  | succ n ih =>
    intro h
    have h1 := h n (by omega)
    have h2 := ih (fun k hk => h k (by omega))
    have e1 : smN L (n + 1) = smN L n + L n := rfl
    have e2 : czN L (n + 1) = czN L n + if 1 ≤ L n then 1 else 0 := rfl
    by_cases q : L n = 1
    · rw [ctN_y q]
      rw [if_pos (by omega)] at e2
      omega
    · rw [ctN_n q]
      by_cases q2 : 1 ≤ L n
      · rw [if_pos q2] at e2
        omega
      · rw [if_neg q2] at e2
        omega
theorem one_some {L : Nat → Nat} {n : Nat} (h : ∀ k, k < n → L k ≤ 15) : (plN L n 16 = 0 ∨ plN L n 16 = 1 ∧ ctN L 1 n = 1) ↔ smN L n ≤ 1 := by
  have h1 := sm_all n h
  rw [pl_cz n h]
  omega
end
section
/-! UNPACKING told by the tape alone: stored blocks, heads, blocks, all -/
/-- the first m bytes of a row -/
def oR (f : Nat → Int32) (o : Nat → Int) (m : Nat) : Prop := ∀ k, k < m → (f k).toInt = o k
theorem oR_put {f f2 : Nat → Int32} {o : Nat → Int} {m m2 : Nat} {b : Int} (A : oR f o m) (h1 : (f2 m).toInt = b) (h2 : ∀ k, k ≠ m → f2 k = f k) (hm : m2 = m + 1) : oR f2 (putT o m b) m2 := fun k hk => by
  subst hm
  show _ = if k = m then b else o k
  by_cases q : k = m
  · rw [if_pos q, q, h1]
  · rw [if_neg q, h2 k q]; exact A k (by omega)
noncomputable def cpS (T : Nat → Int) (n : Nat) : Nat → Nat → (Nat → Int) → Nat → Option (Nat × (Nat → Int) × Nat)
  | 0, q, o, m => some (q, o, m)
  | k + 1, q, o, m => if 8 * n < q + 8 then none else if 6000 ≤ m then none else cpS T n k (q + 8) (putT o m (vB T q 8 : Nat)) (m + 1)
theorem cpS_n {T : Nat → Int} {n k q : Nat} {o : Nat → Int} {m : Nat} (hk : 1 ≤ k) (h : 8 * n < q + 8 ∨ 6000 ≤ m) : cpS T n k q o m = none := by
  obtain ⟨j, rfl⟩ : ∃ j, k = j + 1 := ⟨k - 1, by omega⟩
  show (if 8 * n < q + 8 then none else if 6000 ≤ m then none else cpS T n j (q + 8) (putT o m (vB T q 8 : Nat)) (m + 1)) = none
  by_cases c : 8 * n < q + 8
  · rw [if_pos c]
  · rw [if_neg c, if_pos (by omega)]
theorem cpS_y {T : Nat → Int} {n k j q : Nat} {o : Nat → Int} {m : Nat} (hk : k = j + 1) (h1 : q + 8 ≤ 8 * n) (h2 : m < 6000) : cpS T n k q o m = cpS T n j (q + 8) (putT o m (vB T q 8 : Nat)) (m + 1) := by
  subst hk
  show (if 8 * n < q + 8 then none else if 6000 ≤ m then none else cpS T n j (q + 8) (putT o m (vB T q 8 : Nat)) (m + 1)) = _
  rw [if_neg (by omega), if_neg (by omega)]
noncomputable def xo (a b : Nat) : Int := (Int32.ofNat a ^^^ Int32.ofNat b).toInt
theorem xo_is {x y z : Int32} {a b : Nat} (hx : x.toInt = a) (hy : y.toInt = b) (ha : a < 65536) (hb : b < 65536) (hz : z = x ^^^ y) : z.toInt = xo a b := by
  have h1 : x = Int32.ofNat a := z_inj (by rw [hx]; exact (Int32.toInt_ofNat_of_lt (by omega)).symm)
  have h2 : y = Int32.ofNat b := z_inj (by rw [hy]; exact (Int32.toInt_ofNat_of_lt (by omega)).symm)
  rw [hz, h1, h2]
  rfl
noncomputable def stS (T : Nat → Int) (n p : Nat) (o : Nat → Int) (m : Nat) : Option (Nat × (Nat → Int) × Nat) :=
  if 8 * n < (p + 7) / 8 * 8 + 32 then none
  else if xo (vB T ((p + 7) / 8 * 8) 16) (vB T ((p + 7) / 8 * 8 + 16) 16) = 65535 then cpS T n (vB T ((p + 7) / 8 * 8) 16) ((p + 7) / 8 * 8 + 32) o m
  else none
theorem stS_o {T : Nat → Int} {n p : Nat} {o : Nat → Int} {m : Nat} (h : 8 * n < (p + 7) / 8 * 8 + 32) : stS T n p o m = none := by unfold stS; rw [if_pos h]
theorem stS_x {T : Nat → Int} {n p q : Nat} {o : Nat → Int} {m : Nat} (hq : q = (p + 7) / 8 * 8) (h : xo (vB T q 16) (vB T (q + 16) 16) ≠ 65535) : stS T n p o m = none := by
  subst hq
  unfold stS
  by_cases c : 8 * n < (p + 7) / 8 * 8 + 32
  · rw [if_pos c]
  · rw [if_neg c, if_neg h]
theorem stS_y {T : Nat → Int} {n p q k : Nat} {o : Nat → Int} {m : Nat} (hq : q = (p + 7) / 8 * 8) (h1 : q + 32 ≤ 8 * n) (h : xo (vB T q 16) (vB T (q + 16) 16) = 65535) (hk : k = vB T q 16) : stS T n p o m = cpS T n k (q + 32) o m := by
  subst hq; subst hk
  unfold stS
  rw [if_neg (by omega), if_pos h]
theorem cpS_ok {T : Nat → Int} {n : Nat} : ∀ k q o m r, cpS T n k q o m = some r → q ≤ 8 * n → q ≤ r.1 ∧ r.1 ≤ 8 * n := by
  intro k
  induction k with
  | zero => intro q o m r h h1; cases h; exact ⟨Nat.le_refl q, h1⟩
  | succ k ih =>
    intro q o m r h h1
    by_cases c : 8 * n < q + 8 ∨ 6000 ≤ m
    · rw [cpS_n (by omega) c] at h; cases h
    · rw [cpS_y rfl (by omega) (by omega)] at h
      have := ih _ _ _ r h (by omega)
      omega
theorem stS_ok {T : Nat → Int} {n p : Nat} {o : Nat → Int} {m : Nat} {r : Nat × (Nat → Int) × Nat} (h : stS T n p o m = some r) : p ≤ r.1 ∧ r.1 ≤ 8 * n := by
  by_cases c : 8 * n < (p + 7) / 8 * 8 + 32
  · rw [stS_o c] at h; cases h
  · by_cases c2 : xo (vB T ((p + 7) / 8 * 8) 16) (vB T ((p + 7) / 8 * 8 + 16) 16) = 65535
    · rw [stS_y rfl (by omega) c2 rfl] at h
      have := cpS_ok _ _ _ _ r h (by omega)
      omega
    · rw [stS_x rfl c2] at h; cases h
/-! symbols: lengths that agree -/
theorem sd_eq {T : Nat → Int} {n p : Nat} {L L' : Nat → Nat} {N M : Nat} (hM : M ≤ N) (h1 : ∀ k, k < M → L k = L' k) (h2 : ∀ k, M ≤ k → k < N → L k = 0) : sdR T n p L N = sdR T n p L' M := by
  have hc : ∀ l, l ≠ 0 → ctN L l N = ctN L' l M := fun l hl => by
    rw [ctN_more hl N hM h2, ctN_congr M h1]
  have hn : ∀ l, ncN L N l = ncN L' M l := ncN_congr hc
  have hf : ∀ f l, l ≠ 0 → sdF T n p L N f l = sdF T n p L' M f l := by
    intro f
    induction f with
    | zero => intro l _; rfl
    | succ f ih =>
      intro l hl
      show (if 8 * n < p + l then none else if cdV T p l < ncN L N l + ctN L l N then some (l, cdV T p l - ncN L N l) else sdF T n p L N f (l + 1)) = (if 8 * n < p + l then none else if cdV T p l < ncN L' M l + ctN L' l M then some (l, cdV T p l - ncN L' M l) else sdF T n p L' M f (l + 1))
      rw [hn l, hc l hl, ih (l + 1) (by omega)]
  have hs0 : ∀ l i, ∀ K, K ≤ M → syN L l i K = syN L' l i K := by
    intro l i K
    induction K with
    | zero => intro _; rfl
    | succ K ih =>
      intro hK
      show (if L K = l ∧ ctN L l K = i then K else syN L l i K) = (if L' K = l ∧ ctN L' l K = i then K else syN L' l i K)
      rw [h1 K (by omega), ctN_congr K (fun k hk => h1 k (by omega)), ih (by omega)]
  have hs : ∀ l i, l ≠ 0 → ∀ K, M ≤ K → K ≤ N → syN L l i K = syN L' l i M := by
    intro l i hl K
    induction K with
    | zero => intro a _; rw [show M = 0 by omega]; rfl
    | succ K ih =>
      intro a b
      by_cases e : M = K + 1
      · rw [← e]; exact hs0 l i M (Nat.le_refl M)
      · show (if L K = l ∧ ctN L l K = i then K else syN L l i K) = _
        rw [if_neg (fun q => by have := h2 K (by omega) (by omega); omega)]
        exact ih (by omega) (by omega)
  unfold sdR
  rw [hf 15 1 (by decide)]
  cases e : sdF T n p L' M 15 1 with
  | none => rfl
  | some r =>
    have := sdF_ok 15 1 r e
    show some (syN L r.1 r.2 N, p + r.1) = some (syN L' r.1 r.2 M, p + r.1)
    rw [hs r.1 r.2 (by omega) N hM (Nat.le_refl N)]
theorem stM_eq {T : Nat → Int} {n : Nat} {L L' : Nat → Nat} {N M q k : Nat} {o : Nat → Int} {m : Nat} (hM : M ≤ N) (h1 : ∀ k, k < M → L k = L' k) (h2 : ∀ k, M ≤ k → k < N → L k = 0) : stM T n L N q k o m = stM T n L' M q k o m := by
  unfold stM
  rw [sd_eq hM h1 h2]
theorem stP_eq {T : Nat → Int} {n p : Nat} {L L' D D' : Nat → Nat} {N M N2 M2 : Nat} {o : Nat → Int} {m : Nat} (hM : M ≤ N) (h1 : ∀ k, k < M → L k = L' k) (h2 : ∀ k, M ≤ k → k < N → L k = 0) (gM : M2 ≤ N2) (g1 : ∀ k, k < M2 → D k = D' k) (g2 : ∀ k, M2 ≤ k → k < N2 → D k = 0) : stP T n L N D N2 p o m = stP T n L' M D' M2 p o m := by
  have h : ∀ q k, stM T n D N2 q k o m = stM T n D' M2 q k o m := fun q k => stM_eq gM g1 g2
  unfold stP
  rw [sd_eq hM h1 h2]
  simp only [h]
theorem upP_eq {T : Nat → Int} {n : Nat} {L L' D D' : Nat → Nat} {N M N2 M2 : Nat} (hM : M ≤ N) (h1 : ∀ k, k < M → L k = L' k) (h2 : ∀ k, M ≤ k → k < N → L k = 0) (gM : M2 ≤ N2) (g1 : ∀ k, k < M2 → D k = D' k) (g2 : ∀ k, M2 ≤ k → k < N2 → D k = 0) : ∀ F p o m, upP T n L N D N2 F p o m = upP T n L' M D' M2 F p o m := by
  intro F
  induction F with
  | zero => intro p o m; rfl
  | succ F ih =>
    intro p o m
    unfold upP
    rw [stP_eq hM h1 h2 gM g1 g2]
    cases stP T n L' M D' M2 p o m with
    | none => rfl
    | some r =>
      obtain ⟨b, r⟩ := r
      cases b with
      | true => rfl
      | false => exact ih r.1 r.2.1 r.2.2
theorem sdF_s {T : Nat → Int} {n p : Nat} {L : Nat → Nat} {N : Nat} : ∀ f l r, 1 ≤ l → ncN L N l ≤ cdV T p l → sdF T n p L N f l = some r → r.2 < ctN L r.1 N := by
  intro f
  induction f with
  | zero => intro l r _ _ h; cases h
  | succ f ih =>
    intro l r hl hn h
    by_cases c : 8 * n < p + l
    · rw [sdF_out c] at h; cases h
    · by_cases c2 : cdV T p l < ncN L N l + ctN L l N
      · rw [sdF_y (by omega) c2] at h
        cases h
        show cdV T p l - ncN L N l < ctN L l N
        omega
      · rw [sdF_n (by omega) c2] at h
        exact ih _ _ (by omega) (cdV_ge hl c2) h
theorem sdR_s {T : Nat → Int} {n p : Nat} {L : Nat → Nat} {N s q : Nat} (h : sdR T n p L N = some (s, q)) : s < N ∧ 1 ≤ L s := by
  unfold sdR at h
  cases e : sdF T n p L N 15 1 with
  | none => rw [e] at h; cases h
  | some r =>
    rw [e] at h
    have hr := sdF_ok 15 1 r e
    have h2 := sdF_s 15 1 r (by decide) (Nat.zero_le _) e
    obtain ⟨k, a, b, c⟩ := ctN_ex N h2
    have hs := syN_is b c N a
    cases h
    rw [hs, b]
    omega
/-! the row of a head -/
noncomputable def alF (T : Nat → Int) (p : Nat) : Nat → Nat → Nat
  | 0 => fun _ => 0
  | i + 1 => fun k => if k = ORf i then vB T (p + 3 * i) 3 else alF T p i k
theorem OR_18 : ∀ k, k < 19 → ORf k < 19 := by decide
theorem alF_0 {T : Nat → Int} {p : Nat} : ∀ i, i ≤ 19 → ∀ k, 19 ≤ k → alF T p i k = 0 := by
  intro i
  induction i with
  | zero => intro _ k _; rfl
  | succ i ih =>
    intro h k hk
    have := OR_18 i (by omega)
    show (if k = ORf i then vB T (p + 3 * i) 3 else alF T p i k) = 0
    rw [if_neg (by omega)]
    exact ih (by omega) k hk
theorem alF_7 {T : Nat → Int} {p : Nat} : ∀ i k, alF T p i k ≤ 7 := by
  intro i
  induction i with
  | zero => intro k; exact Nat.zero_le _
  | succ i ih =>
    intro k
    show (if k = ORf i then vB T (p + 3 * i) 3 else alF T p i k) ≤ 7
    have := vB_lt T (p + 3 * i) 3
    split
    · omega
    · exact ih k
/-- the alphabet's lengths in a row of c places: the first i told -/
def alI (f : Nat → Int32) (T : Nat → Int) (p i c : Nat) : Prop := ∀ k, k < c → (f k).toInt = (alF T p i k : Nat)
theorem alI_0 {f : Nat → Int32} {T : Nat → Int} {p c : Nat} {v : Int32} (A : ∀ k, k < c → f k = v) (hv : v.toInt = 0) : alI f T p 0 c := fun k hk => by rw [A k hk, hv]; rfl
theorem alI_s {h h2 : ez_H} {a c p i j x : Nat} {T : Nat → Int} {y : Int32} (A : alI (ez_I h a) T p i c) (e : h2 = ez_setI h a x y) (hx : (x : Int) = (ORf i : Nat)) (hy : y.toInt = (vB T (p + 3 * i) 3 : Nat)) (hj : j = i + 1) : alI (ez_I h2 a) T p j c := fun k hk => by
  subst hj
  show _ = ((if k = ORf i then vB T (p + 3 * i) 3 else alF T p i k : Nat) : Int)
  by_cases q : k = x
  · rw [if_pos (by omega), q, zI_eq e, hy]
  · rw [if_neg (by omega), zI_ne e (fun c => q c.2)]; exact A k hk
noncomputable def flN (r : Nat → Nat) (a t v : Nat) : Nat → Nat := fun k => if a ≤ k ∧ k < a + t then v else r k
/-- one step of the row: where it goes on, how many places are told, the row -/
noncomputable def rwS (T : Nat → Int) (n : Nat) (L : Nat → Nat) (N z p a : Nat) (r : Nat → Nat) : Option (Nat × Nat × (Nat → Nat)) := match sdR T n p L N with
  | none => none
  | some (s, q) => if s < 16 then some (q, a + 1, flN r a 1 s)
    else if s = 16 ∧ a = 0 then none
    else if 8 * n < q + REf (s - 16) then none
    else if z < a + (RBf (s - 16) + vB T q (REf (s - 16))) then none
    else some (q + REf (s - 16), a + (RBf (s - 16) + vB T q (REf (s - 16))), flN r a (RBf (s - 16) + vB T q (REf (s - 16))) (if s = 16 then r (a - 1) else 0))
theorem rwS_e {T : Nat → Int} {n : Nat} {L : Nat → Nat} {N z p a : Nat} {r : Nat → Nat} {s q : Nat} (h : sdR T n p L N = some (s, q)) : rwS T n L N z p a r = if s < 16 then some (q, a + 1, flN r a 1 s) else if s = 16 ∧ a = 0 then none else if 8 * n < q + REf (s - 16) then none else if z < a + (RBf (s - 16) + vB T q (REf (s - 16))) then none else some (q + REf (s - 16), a + (RBf (s - 16) + vB T q (REf (s - 16))), flN r a (RBf (s - 16) + vB T q (REf (s - 16))) (if s = 16 then r (a - 1) else 0)) := by
  unfold rwS
  rw [h]
theorem rwS_0 {T : Nat → Int} {n : Nat} {L : Nat → Nat} {N z p a : Nat} {r : Nat → Nat} (h : sdR T n p L N = none) : rwS T n L N z p a r = none := by
  unfold rwS
  rw [h]
theorem rwS_l {T : Nat → Int} {n : Nat} {L : Nat → Nat} {N z p a : Nat} {r : Nat → Nat} {s q : Nat} (h : sdR T n p L N = some (s, q)) (hs : s < 16) : rwS T n L N z p a r = some (q, a + 1, flN r a 1 s) := by rw [rwS_e h, if_pos hs]
theorem rwS_n {T : Nat → Int} {n : Nat} {L : Nat → Nat} {N z p a : Nat} {r : Nat → Nat} {s q : Nat} (h : sdR T n p L N = some (s, q)) (hs : 16 ≤ s) (ho : s = 16 ∧ a = 0 ∨ 8 * n < q + REf (s - 16) ∨ z < a + (RBf (s - 16) + vB T q (REf (s - 16)))) : rwS T n L N z p a r = none := by
  rw [rwS_e h, if_neg (by omega)]
  by_cases c1 : s = 16 ∧ a = 0
  · rw [if_pos c1]
  · rw [if_neg c1]
    by_cases c2 : 8 * n < q + REf (s - 16)
    · rw [if_pos c2]
    · rw [if_neg c2, if_pos (by omega)]
theorem rwS_y {T : Nat → Int} {n : Nat} {L : Nat → Nat} {N z p a t v e : Nat} {r : Nat → Nat} {s q : Nat} (h : sdR T n p L N = some (s, q)) (hs : 16 ≤ s) (h1 : ¬ (s = 16 ∧ a = 0)) (he : e = REf (s - 16)) (h2 : q + e ≤ 8 * n) (ht : t = RBf (s - 16) + vB T q e) (h3 : a + t ≤ z) (hv : v = if s = 16 then r (a - 1) else 0) : rwS T n L N z p a r = some (q + e, a + t, flN r a t v) := by
  subst he; subst ht; subst hv
  rw [rwS_e h, if_neg (by omega), if_neg h1, if_neg (by omega), if_neg (by omega)]
theorem RB_3 : ∀ k, k < 3 → 3 ≤ RBf k ∧ RBf k ≤ 11 ∧ REf k ≤ 7 := by decide
theorem rwS_ok {T : Nat → Int} {n : Nat} {L : Nat → Nat} {N z p a : Nat} {r : Nat → Nat} {w : Nat × Nat × (Nat → Nat)} (hL : ∀ k, 19 ≤ k → k < N → L k = 0) (ha : a < z) (h : rwS T n L N z p a r = some w) : p < w.1 ∧ w.1 ≤ 8 * n ∧ a < w.2.1 ∧ w.2.1 ≤ z := by
  cases e : sdR T n p L N with
  | none => rw [rwS_0 e] at h; cases h
  | some u =>
    obtain ⟨s, q⟩ := u
    have h0 := sdR_ok e
    have h1 := sdR_s e
    have h2 : s < 19 := by
      by_cases c : s < 19
      · exact c
      · have := hL s (by omega) h1.1; omega
    by_cases c : s < 16
    · rw [rwS_l e c] at h
      cases h
      exact ⟨h0.1, h0.2.2, Nat.lt_succ_self a, ha⟩
    · have h3 := RB_3 (s - 16) (by omega)
      by_cases c2 : s = 16 ∧ a = 0 ∨ 8 * n < q + REf (s - 16) ∨ z < a + (RBf (s - 16) + vB T q (REf (s - 16)))
      · rw [rwS_n e (by omega) c2] at h; cases h
      · rw [rwS_y e (by omega) (by omega) rfl (by omega) rfl (by omega) rfl] at h
        cases h
        show p < q + REf (s - 16) ∧ q + REf (s - 16) ≤ 8 * n ∧ a < a + (RBf (s - 16) + vB T q (REf (s - 16))) ∧ a + (RBf (s - 16) + vB T q (REf (s - 16))) ≤ z
        omega
/-- the row, at most F steps more -/
noncomputable def rwL (T : Nat → Int) (n : Nat) (L : Nat → Nat) (N z : Nat) : Nat → Nat → Nat → (Nat → Nat) → Option (Nat × (Nat → Nat))
  | 0, p, _, r => some (p, r)
  | F + 1, p, a, r => if z ≤ a then some (p, r) else match rwS T n L N z p a r with
    | none => none
    | some w => rwL T n L N z F w.1 w.2.1 w.2.2
theorem rwL_e {T : Nat → Int} {n : Nat} {L : Nat → Nat} {N z F p a : Nat} {r : Nat → Nat} (h : z ≤ a) : rwL T n L N z F p a r = some (p, r) := by
  cases F with
  | zero => rfl
  | succ F => exact if_pos h
theorem rwL_n {T : Nat → Int} {n : Nat} {L : Nat → Nat} {N z F p a : Nat} {r : Nat → Nat} (h : a < z) (hF : 1 ≤ F) (hs : rwS T n L N z p a r = none) : rwL T n L N z F p a r = none := by
  obtain ⟨G, rfl⟩ : ∃ G, F = G + 1 := ⟨F - 1, by omega⟩
  show (if z ≤ a then some (p, r) else match rwS T n L N z p a r with
    | none => none
    | some w => rwL T n L N z G w.1 w.2.1 w.2.2) = none
  rw [if_neg (by omega), hs]
theorem rwL_s {T : Nat → Int} {n : Nat} {L : Nat → Nat} {N z F G p a : Nat} {r : Nat → Nat} {w : Nat × Nat × (Nat → Nat)} (h : a < z) (hF : F = G + 1) (hs : rwS T n L N z p a r = some w) : rwL T n L N z F p a r = rwL T n L N z G w.1 w.2.1 w.2.2 := by
  subst hF
  show (if z ≤ a then some (p, r) else match rwS T n L N z p a r with
    | none => none
    | some w => rwL T n L N z G w.1 w.2.1 w.2.2) = _
  rw [if_neg (by omega), hs]
theorem rwL_f {T : Nat → Int} {n : Nat} {L : Nat → Nat} {N z : Nat} (hL : ∀ k, 19 ≤ k → k < N → L k = 0) : ∀ F G p a r, z ≤ F + a → z ≤ G + a → rwL T n L N z F p a r = rwL T n L N z G p a r := by
  intro F
  induction F with
  | zero => intro G p a r h1 h2; rw [rwL_e (by omega), rwL_e (by omega)]
  | succ F ih =>
    intro G p a r h1 h2
    by_cases c : z ≤ a
    · rw [rwL_e c, rwL_e c]
    · cases e : rwS T n L N z p a r with
      | none => rw [rwL_n (by omega) (by omega) e, rwL_n (by omega) (by omega) e]
      | some w =>
        have := rwS_ok hL (by omega) e
        rw [rwL_s (by omega) rfl e, rwL_s (G := G - 1) (by omega) (by omega) e]
        exact ih (G - 1) w.1 w.2.1 w.2.2 (by omega) (by omega)
theorem rwL_ok {T : Nat → Int} {n : Nat} {L : Nat → Nat} {N z : Nat} (hL : ∀ k, 19 ≤ k → k < N → L k = 0) : ∀ F p a r w, rwL T n L N z F p a r = some w → p ≤ 8 * n → p ≤ w.1 ∧ w.1 ≤ 8 * n := by
  intro F
  induction F with
  | zero => intro p a r w h hp; cases h; exact ⟨Nat.le_refl p, hp⟩
  | succ F ih =>
    intro p a r w h hp
    by_cases c : z ≤ a
    · rw [rwL_e c] at h; cases h; exact ⟨Nat.le_refl p, hp⟩
    · cases e : rwS T n L N z p a r with
      | none => rw [rwL_n (by omega) (by omega) e] at h; cases h
      | some u =>
        rw [rwL_s (by omega) rfl e] at h
        have h1 := rwS_ok hL (by omega) e
        have h2 := ih _ _ _ w h (by omega)
        omega
theorem rwS_eq {T : Nat → Int} {n p : Nat} {L L' : Nat → Nat} {N M z a : Nat} {r : Nat → Nat} (hM : M ≤ N) (h1 : ∀ k, k < M → L k = L' k) (h2 : ∀ k, M ≤ k → k < N → L k = 0) : rwS T n L N z p a r = rwS T n L' M z p a r := by
  unfold rwS
  rw [sd_eq hM h1 h2]
theorem rwL_eq {T : Nat → Int} {n : Nat} {L L' : Nat → Nat} {N M z : Nat} (hM : M ≤ N) (h1 : ∀ k, k < M → L k = L' k) (h2 : ∀ k, M ≤ k → k < N → L k = 0) : ∀ F p a r, rwL T n L N z F p a r = rwL T n L' M z F p a r := by
  intro F
  induction F with
  | zero => intro p a r; rfl
  | succ F ih =>
    intro p a r
    unfold rwL
    rw [rwS_eq hM h1 h2]
    cases rwS T n L' M z p a r with
    | none => rfl
    | some w => exact congrArg (fun x => if z ≤ a then some (p, r) else x) (ih w.1 w.2.1 w.2.2)
/-- the row's places below a -/
def rwJ (f : Nat → Int32) (r : Nat → Nat) (a : Nat) : Prop := ∀ k, k < a → (f k).toInt = (r k : Nat) ∧ r k ≤ 15
theorem rwJ_0 (f : Nat → Int32) (r : Nat → Nat) : rwJ f r 0 := fun k hk => by omega
/-- t places of v being laid at a: i of them -/
theorem rwJ_s {h h2 : ez_H} {c a i j v x b : Nat} {y : Int32} {r : Nat → Nat} (A : rwJ (ez_I h c) (flN r a i v) (a + i)) (e : h2 = ez_setI h c x y) (hx : x = a + i) (hy : y.toInt = v) (hv : v ≤ 15) (hj : j = i + 1) (hb : b = a + j) : rwJ (ez_I h2 c) (flN r a j v) b := fun k hk => by
  subst hj; subst hb
  show _ = ((if a ≤ k ∧ k < a + (i + 1) then v else r k : Nat) : Int) ∧ (if a ≤ k ∧ k < a + (i + 1) then v else r k : Nat) ≤ 15
  by_cases q : k = x
  · rw [if_pos (by omega), q, zI_eq e, hy]
    exact ⟨rfl, hv⟩
  · rw [zI_ne e (fun c => q c.2)]
    have h3 := A k (by omega)
    have h4 : flN r a i v k = if a ≤ k ∧ k < a + (i + 1) then v else r k := by
      show (if a ≤ k ∧ k < a + i then v else r k) = _
      by_cases q2 : a ≤ k ∧ k < a + i
      · rw [if_pos q2, if_pos (by omega)]
      · rw [if_neg q2, if_neg (by omega)]
    rw [h4] at h3
    exact h3
theorem rwJ_z {f : Nat → Int32} {a b v : Nat} {r : Nat → Nat} (A : rwJ f r a) (hb : b = a + 0) : rwJ f (flN r a 0 v) b := fun k hk => by
  show _ = ((if a ≤ k ∧ k < a + 0 then v else r k : Nat) : Int) ∧ (if a ≤ k ∧ k < a + 0 then v else r k : Nat) ≤ 15
  rw [if_neg (by omega)]
  exact A k (by omega)
/-- a head: where it ends, the lengths of both codes -/
noncomputable def litF (nl : Nat) (r : Nat → Nat) : Nat → Nat := fun k => if k < nl then r k else 0
noncomputable def disF (nl nd : Nat) (r : Nat → Nat) : Nat → Nat := fun k => if k < nd then r (nl + k) else 0
abbrev okH (nl nd : Nat) (r : Nat → Nat) : Prop := wsN (litF nl r) 288 = 32768 ∧ litF nl r 256 ≠ 0 ∧ (wsN (disF nl nd r) 288 = 32768 ∨ plN (disF nl nd r) 288 16 = 0 ∨ plN (disF nl nd r) 288 16 = 1 ∧ ctN (disF nl nd r) 1 288 = 1)
noncomputable def hd2 (T : Nat → Int) (n q nl nd i : Nat) : Option (Nat × (Nat → Nat)) :=
  if 8 * n < q + 3 * i then none
  else if wsN (alF T q i) 288 = 32768 then rwL T n (alF T q i) 288 (nl + nd) (nl + nd) (q + 3 * i) 0 (fun _ => 0)
  else none
noncomputable def hdU (T : Nat → Int) (n p : Nat) : Option (Nat × (Nat → Nat) × (Nat → Nat)) :=
  if 8 * n < p + 14 then none
  else if 29 < vB T p 5 ∨ 29 < vB T (p + 5) 5 then none
  else match hd2 T n (p + 14) (257 + vB T p 5) (1 + vB T (p + 5) 5) (4 + vB T (p + 10) 4) with
    | none => none
    | some (q, r) => if okH (257 + vB T p 5) (1 + vB T (p + 5) 5) r then some (q, litF (257 + vB T p 5) r, disF (257 + vB T p 5) (1 + vB T (p + 5) 5) r) else none
theorem hdU_o {T : Nat → Int} {n p : Nat} (h : 8 * n < p + 14 ∨ 29 < vB T p 5 ∨ 29 < vB T (p + 5) 5) : hdU T n p = none := by
  unfold hdU
  by_cases c : 8 * n < p + 14
  · rw [if_pos c]
  · rw [if_neg c, if_pos (by omega)]
theorem hdU_2 {T : Nat → Int} {n p : Nat} (h : p + 14 ≤ 8 * n) (h1 : vB T p 5 ≤ 29) (h2 : vB T (p + 5) 5 ≤ 29) : hdU T n p = match hd2 T n (p + 14) (257 + vB T p 5) (1 + vB T (p + 5) 5) (4 + vB T (p + 10) 4) with
    | none => none
    | some (q, r) => if okH (257 + vB T p 5) (1 + vB T (p + 5) 5) r then some (q, litF (257 + vB T p 5) r, disF (257 + vB T p 5) (1 + vB T (p + 5) 5) r) else none := by
  unfold hdU
  rw [if_neg (by omega), if_neg (by omega)]
theorem hdU_n {T : Nat → Int} {n p p2 nl nd i : Nat} (h : p + 14 ≤ 8 * n) (h1 : vB T p 5 ≤ 29) (h2 : vB T (p + 5) 5 ≤ 29) (hp : p2 = p + 14) (e1 : nl = 257 + vB T p 5) (e2 : nd = 1 + vB T (p + 5) 5) (e3 : i = 4 + vB T (p + 10) 4) (hh : hd2 T n p2 nl nd i = none) : hdU T n p = none := by
  subst hp; subst e1; subst e2; subst e3
  rw [hdU_2 h h1 h2, hh]
theorem hdU_r {T : Nat → Int} {n p p2 nl nd i q : Nat} {r : Nat → Nat} (h : p + 14 ≤ 8 * n) (h1 : vB T p 5 ≤ 29) (h2 : vB T (p + 5) 5 ≤ 29) (hp : p2 = p + 14) (e1 : nl = 257 + vB T p 5) (e2 : nd = 1 + vB T (p + 5) 5) (e3 : i = 4 + vB T (p + 10) 4) (hh : hd2 T n p2 nl nd i = some (q, r)) : hdU T n p = if okH nl nd r then some (q, litF nl r, disF nl nd r) else none := by
  subst hp; subst e1; subst e2; subst e3
  rw [hdU_2 h h1 h2, hh]
theorem hd2_o {T : Nat → Int} {n q nl nd i : Nat} (h : 8 * n < q + 3 * i ∨ wsN (alF T q i) 288 ≠ 32768) : hd2 T n q nl nd i = none := by
  unfold hd2
  by_cases c : 8 * n < q + 3 * i
  · rw [if_pos c]
  · rw [if_neg c, if_neg (by omega)]
theorem hd2_y {T : Nat → Int} {n q nl nd i z p2 : Nat} (h : q + 3 * i ≤ 8 * n) (h2 : wsN (alF T q i) 288 = 32768) (hz : z = nl + nd) (hp : p2 = q + 3 * i) : hd2 T n q nl nd i = rwL T n (alF T q i) 288 z z p2 0 (fun _ => 0) := by
  subst hz; subst hp
  unfold hd2
  rw [if_neg (by omega), if_pos h2]
theorem hdU_ok {T : Nat → Int} {n p : Nat} {w : Nat × (Nat → Nat) × (Nat → Nat)} (h : hdU T n p = some w) : p ≤ w.1 ∧ w.1 ≤ 8 * n := by
  by_cases c : 8 * n < p + 14 ∨ 29 < vB T p 5 ∨ 29 < vB T (p + 5) 5
  · rw [hdU_o c] at h; cases h
  · cases e : hd2 T n (p + 14) (257 + vB T p 5) (1 + vB T (p + 5) 5) (4 + vB T (p + 10) 4) with
    | none => rw [hdU_n (by omega) (by omega) (by omega) rfl rfl rfl rfl e] at h; cases h
    | some u =>
      obtain ⟨q, r⟩ := u
      have h3 : 4 + vB T (p + 10) 4 ≤ 19 := by have := vB_lt T (p + 10) 4; omega
      rw [hdU_r (by omega) (by omega) (by omega) rfl rfl rfl rfl e] at h
      by_cases c2 : okH (257 + vB T p 5) (1 + vB T (p + 5) 5) r
      · rw [if_pos c2] at h
        cases h
        by_cases c3 : 8 * n < p + 14 + 3 * (4 + vB T (p + 10) 4) ∨ wsN (alF T (p + 14) (4 + vB T (p + 10) 4)) 288 ≠ 32768
        · rw [hd2_o c3] at e; cases e
        · rw [hd2_y (by omega) (by omega) rfl rfl] at e
          have := rwL_ok (fun k a _ => alF_0 _ h3 k a) _ _ _ _ _ e (by omega)
          show p ≤ q ∧ q ≤ 8 * n
          have t : p + 14 + 3 * (4 + vB T (p + 10) 4) ≤ q ∧ q ≤ 8 * n := this
          omega
      · rw [if_neg c2] at h; cases h
/-! blocks -/
noncomputable def fxL (k : Nat) : Nat := if k < 144 then 8 else if k < 256 then 9 else if k < 280 then 7 else 8
noncomputable def fxD (k : Nat) : Nat := if k < 32 then 5 else 0
noncomputable def blU (T : Nat → Int) (n p : Nat) (o : Nat → Int) (m : Nat) : Option (Nat × (Nat → Int) × Nat) :=
  if 8 * n < p + 3 then none
  else if vB T (p + 1) 2 = 0 then stS T n (p + 3) o m
  else if vB T (p + 1) 2 = 1 then upP T n fxL 288 fxD 288 (8 * n) (p + 3) o m
  else if vB T (p + 1) 2 = 2 then match hdU T n (p + 3) with
    | none => none
    | some (q, L1, L2) => upP T n L1 288 L2 288 (8 * n) q o m
  else none
theorem blU_o {T : Nat → Int} {n p : Nat} {o : Nat → Int} {m : Nat} (h : 8 * n < p + 3 ∨ vB T (p + 1) 2 = 3) : blU T n p o m = none := by
  unfold blU
  by_cases c : 8 * n < p + 3
  · rw [if_pos c]
  · rw [if_neg c, if_neg (by omega), if_neg (by omega), if_neg (by omega)]
theorem blU_0 {T : Nat → Int} {n p q : Nat} {o : Nat → Int} {m : Nat} (h : p + 3 ≤ 8 * n) (h2 : vB T (p + 1) 2 = 0) (hq : q = p + 3) : blU T n p o m = stS T n q o m := by
  subst hq
  unfold blU
  rw [if_neg (by omega), if_pos h2]
theorem blU_1 {T : Nat → Int} {n p q : Nat} {o : Nat → Int} {m : Nat} (h : p + 3 ≤ 8 * n) (h2 : vB T (p + 1) 2 = 1) (hq : q = p + 3) : blU T n p o m = upP T n fxL 288 fxD 288 (8 * n) q o m := by
  subst hq
  unfold blU
  rw [if_neg (by omega), if_neg (by omega), if_pos h2]
theorem blU_2 {T : Nat → Int} {n p q : Nat} {o : Nat → Int} {m : Nat} (h : p + 3 ≤ 8 * n) (h2 : vB T (p + 1) 2 = 2) (hq : q = p + 3) : blU T n p o m = match hdU T n q with
    | none => none
    | some (q, L1, L2) => upP T n L1 288 L2 288 (8 * n) q o m := by
  subst hq
  unfold blU
  rw [if_neg (by omega), if_neg (by omega), if_neg (by omega), if_pos h2]
theorem blU_2n {T : Nat → Int} {n p q : Nat} {o : Nat → Int} {m : Nat} (h : p + 3 ≤ 8 * n) (h2 : vB T (p + 1) 2 = 2) (hq : q = p + 3) (hh : hdU T n q = none) : blU T n p o m = none := by rw [blU_2 h h2 hq, hh]
theorem blU_2y {T : Nat → Int} {n p q q2 : Nat} {o : Nat → Int} {m : Nat} {L1 L2 : Nat → Nat} (h : p + 3 ≤ 8 * n) (h2 : vB T (p + 1) 2 = 2) (hq : q = p + 3) (hh : hdU T n q = some (q2, L1, L2)) : blU T n p o m = upP T n L1 288 L2 288 (8 * n) q2 o m := by rw [blU_2 h h2 hq, hh]
theorem upP_ok {T : Nat → Int} {n : Nat} {L1 : Nat → Nat} {N1 : Nat} {LD : Nat → Nat} {ND : Nat} : ∀ F p o m r, upP T n L1 N1 LD ND F p o m = some r → p < r.1 ∧ r.1 ≤ 8 * n := by
  intro F
  induction F with
  | zero => intro p o m r h; cases h
  | succ F ih =>
    intro p o m r h
    unfold upP at h
    cases e : stP T n L1 N1 LD ND p o m with
    | none => rw [e] at h; cases h
    | some w =>
      obtain ⟨b, w⟩ := w
      rw [e] at h
      have h1 := stP_ok e
      cases b with
      | true => cases h; exact h1
      | false =>
        have h2 := ih _ _ _ r h
        omega
theorem blU_ok {T : Nat → Int} {n p : Nat} {o : Nat → Int} {m : Nat} {r : Nat × (Nat → Int) × Nat} (h : blU T n p o m = some r) : p < r.1 ∧ r.1 ≤ 8 * n := by
  have hv := vB_lt T (p + 1) 2
  by_cases c : 8 * n < p + 3 ∨ vB T (p + 1) 2 = 3
  · rw [blU_o c] at h; cases h
  · by_cases c0 : vB T (p + 1) 2 = 0
    · rw [blU_0 (by omega) c0 rfl] at h
      have := stS_ok h
      omega
    · by_cases c1 : vB T (p + 1) 2 = 1
      · rw [blU_1 (by omega) c1 rfl] at h
        have := upP_ok _ _ _ _ _ h
        omega
      · have c2 : vB T (p + 1) 2 = 2 := by omega
        cases e : hdU T n (p + 3) with
        | none => rw [blU_2n (by omega) c2 rfl e] at h; cases h
        | some w =>
          obtain ⟨q, L1, L2⟩ := w
          rw [blU_2y (by omega) c2 rfl e] at h
          have h1 := hdU_ok e
          have h2 := upP_ok _ _ _ _ _ h
          have h3 : p + 3 ≤ q ∧ q ≤ 8 * n := h1
          omega
/-- all blocks, at most F of them -/
noncomputable def unL (T : Nat → Int) (n : Nat) : Nat → Nat → (Nat → Int) → Nat → Option ((Nat → Int) × Nat)
  | 0, _, _, _ => none
  | F + 1, p, o, m => match blU T n p o m with
    | none => none
    | some r => if bitT T p = 1 then some r.2 else unL T n F r.1 r.2.1 r.2.2
theorem unL_n {T : Nat → Int} {n F p : Nat} {o : Nat → Int} {m : Nat} (h : blU T n p o m = none) : unL T n F p o m = none := by
  cases F with
  | zero => rfl
  | succ F => unfold unL; rw [h]
theorem unL_l {T : Nat → Int} {n F p : Nat} {o : Nat → Int} {m : Nat} {r : Nat × (Nat → Int) × Nat} (hF : 1 ≤ F) (h : blU T n p o m = some r) (hb : bitT T p = 1) : unL T n F p o m = some r.2 := by
  obtain ⟨G, rfl⟩ : ∃ G, F = G + 1 := ⟨F - 1, by omega⟩
  unfold unL
  rw [h]
  exact if_pos hb
theorem unL_g {T : Nat → Int} {n F G p : Nat} {o : Nat → Int} {m : Nat} {r : Nat × (Nat → Int) × Nat} (hF : F = G + 1) (h : blU T n p o m = some r) (hb : bitT T p ≠ 1) : unL T n F p o m = unL T n G r.1 r.2.1 r.2.2 := by
  subst hF
  show (match blU T n p o m with
    | none => none
    | some r => if bitT T p = 1 then some r.2 else unL T n G r.1 r.2.1 r.2.2) = _
  rw [h]
  exact if_neg hb
theorem blU_m {T : Nat → Int} {n p : Nat} {o : Nat → Int} {m : Nat} (h : 8 * n ≤ p) : blU T n p o m = none := blU_o (.inl (by omega))
theorem unL_f {T : Nat → Int} {n : Nat} : ∀ F G p o m, 8 * n ≤ F + p → 8 * n ≤ G + p → unL T n F p o m = unL T n G p o m := by
  intro F
  induction F with
  | zero => intro G p o m h1 h2; rw [unL_n (blU_m (by omega)), unL_n (blU_m (by omega))]
  | succ F ih =>
    intro G p o m h1 h2
    cases e : blU T n p o m with
    | none => rw [unL_n e, unL_n e]
    | some r =>
      have h3 := blU_ok e
      by_cases hb : bitT T p = 1
      · rw [unL_l (by omega) e hb, unL_l (by omega) e hb]
      · rw [unL_g rfl e hb, unL_g (G := G - 1) (by omega) e hb]
        exact ih _ _ _ _ (by omega) (by omega)
/-! for the class -/
theorem n_m8 {x y z : Int32} (hx : 0 ≤ x.toInt) (hy : y.toInt = -8) (hz : z = x &&& y) : z.toInt = x.toInt / 8 * 8 := by
  have h1 := z_u hx
  have h2 := z_u' (x := y) (by omega)
  have hr := z_rng x
  have h3 : ev_u y = 4294967288 := by omega
  have h4 : ev_u z = ev_u x / 8 * 8 := by
    rw [hz, ef_and_ok, h3]
    show ev_u x &&& 4294967288 = _
    apply Nat.eq_of_testBit_eq
    intro i
    rw [Nat.testBit_and, show (4294967288 : Nat) = (2 ^ 29 - 1) * 2 ^ 3 from rfl, Nat.testBit_mul_two_pow, Nat.testBit_two_pow_sub_one, show ev_u x / 8 * 8 = ev_u x / 2 ^ 3 * 2 ^ 3 from rfl, Nat.testBit_mul_two_pow, Nat.testBit_div_two_pow]
    by_cases c : 3 ≤ i
    · rw [show i - 3 + 3 = i by omega]
      by_cases c2 : i - 3 < 29
      · rw [decide_eq_true c, decide_eq_true c2, Bool.true_and, Bool.true_and, Bool.and_true]
      · have h5 : (ev_u x).testBit i = false := Nat.testBit_lt_two_pow (Nat.lt_of_lt_of_le (show ev_u x < 2 ^ 31 by omega) (Nat.pow_le_pow_right (by decide) (by omega)))
        rw [h5, Bool.false_and, Bool.and_false]
    · rw [decide_eq_false c, Bool.false_and, Bool.false_and, Bool.and_false]
  rw [z_of_u (by omega), h4]
  omega
theorem al_aR {f : Nat → Int32} {T : Nat → Int} {p i : Nat} (A : alI f T p i 288) : aR f 288 0 15 := fun k hk => by
  have h1 := A k hk
  have h2 := alF_7 (T := T) (p := p) i k
  omega
theorem al_nL {f : Nat → Int32} {T : Nat → Int} {p i c : Nat} (A : alI f T p i c) : ∀ k, k < c → nL f k = alF T p i k := fun k hk => by
  have h1 := A k hk
  show (f k).toInt.toNat = _
  omega
theorem ws_eq {L L' : Nat → Nat} : ∀ n, (∀ k, k < n → L k = L' k) → wsN L n = wsN L' n := by
  intro n
  induction n with
  | zero => intro _; rfl
  | succ n ih =>
    intro h
    show wsN L n + (if 1 ≤ L n then 2 ^ (15 - L n) else 0) = wsN L' n + (if 1 ≤ L' n then 2 ^ (15 - L' n) else 0)
    rw [ih (fun k hk => h k (by omega)), h n (by omega)]
/-- one match -/
noncomputable def smU (T : Nat → Int) (n : Nat) (LD : Nat → Nat) (ND q k : Nat) (o : Nat → Int) (m : Nat) : Option (Nat × (Nat → Int) × Nat) :=
  if 28 < k then none else if 8 * n < q + LEf k then none else stM T n LD ND q k o m
theorem smU_n {T : Nat → Int} {n : Nat} {LD : Nat → Nat} {ND q k : Nat} {o : Nat → Int} {m : Nat} (h : 28 < k ∨ 8 * n < q + LEf k) : smU T n LD ND q k o m = none := by
  unfold smU
  by_cases c : 28 < k
  · rw [if_pos c]
  · rw [if_neg c, if_pos (by omega)]
theorem smU_1 {T : Nat → Int} {n : Nat} {LD : Nat → Nat} {ND q k q2 : Nat} {o : Nat → Int} {m : Nat} (h : k ≤ 28) (h2 : q + LEf k ≤ 8 * n) (hq : q2 = q + LEf k) (hs : sdR T n q2 LD ND = none) : smU T n LD ND q k o m = none := by
  subst hq
  unfold smU
  rw [if_neg (by omega), if_neg (by omega)]
  unfold stM
  rw [hs]
theorem smU_2 {T : Nat → Int} {n : Nat} {LD : Nat → Nat} {ND q k q2 d r : Nat} {o : Nat → Int} {m : Nat} (h : k ≤ 28) (h2 : q + LEf k ≤ 8 * n) (hq : q2 = q + LEf k) (hs : sdR T n q2 LD ND = some (d, r)) (ho : 29 < d ∨ 8 * n < r + DEf d ∨ m < DBf d + vB T r (DEf d)) : smU T n LD ND q k o m = none := by
  subst hq
  unfold smU
  rw [if_neg (by omega), if_neg (by omega)]
  unfold stM
  rw [hs]
  show (if 29 < d then none else if 8 * n < r + DEf d then none else if m < DBf d + vB T r (DEf d) then none else _) = none
  by_cases c1 : 29 < d
  · rw [if_pos c1]
  · rw [if_neg c1]
    by_cases c2 : 8 * n < r + DEf d
    · rw [if_pos c2]
    · rw [if_neg c2, if_pos (by omega)]
noncomputable def cpQ (q : Nat) : Option ((Nat → Int) × Nat) → Option (Nat × (Nat → Int) × Nat)
  | none => none
  | some (o, m) => some (q, o, m)
theorem smU_3 {T : Nat → Int} {n : Nat} {LD : Nat → Nat} {ND q k q2 d r ln ds e q3 : Nat} {o : Nat → Int} {m : Nat} (h : k ≤ 28) (h2 : q + LEf k ≤ 8 * n) (hq : q2 = q + LEf k) (hs : sdR T n q2 LD ND = some (d, r)) (h3 : d ≤ 29) (he : e = DEf d) (h4 : r + e ≤ 8 * n) (hd : ds = DBf d + vB T r e) (h5 : ds ≤ m) (hl : ln = LBf k + vB T q (LEf k)) (h6 : q3 = r + e) : smU T n LD ND q k o m = cpQ q3 (cpB ln o m ds) := by
  subst hq; subst he; subst hd; subst hl; subst h6
  unfold smU
  rw [if_neg (by omega), if_neg (by omega)]
  unfold stM
  rw [hs]
  show (if 29 < d then none else if 8 * n < r + DEf d then none else if m < DBf d + vB T r (DEf d) then none else _) = _
  rw [if_neg (by omega), if_neg (by omega), if_neg (by omega)]
  cases cpB (LBf k + vB T q (LEf k)) o m (DBf d + vB T r (DEf d)) with
  | none => rfl
  | some w => rfl
theorem cpB_y {k j m d m2 : Nat} {o : Nat → Int} (hk : k = j + 1) (h : m < 6000) (hm : m2 = m + 1) : cpB k o m d = cpB j (putT o m (o (m - d))) m2 d := by
  subst hk; subst hm
  show (if 6000 ≤ m then none else cpB j (putT o m (o (m - d))) (m + 1) d) = _
  rw [if_neg (by omega)]
theorem cpB_n {k m d : Nat} {o : Nat → Int} (hk : 1 ≤ k) (h : 6000 ≤ m) : cpB k o m d = none := by
  obtain ⟨j, rfl⟩ : ∃ j, k = j + 1 := ⟨k - 1, by omega⟩
  exact if_pos h
theorem stP_e {T : Nat → Int} {n : Nat} {L1 : Nat → Nat} {N1 : Nat} {LD : Nat → Nat} {ND p : Nat} {o : Nat → Int} {m q : Nat} (h : sdR T n p L1 N1 = some (256, q)) : stP T n L1 N1 LD ND p o m = some (true, q, o, m) := by
  unfold stP
  rw [h]
  exact if_pos rfl
theorem stP_b {T : Nat → Int} {n : Nat} {L1 : Nat → Nat} {N1 : Nat} {LD : Nat → Nat} {ND p : Nat} {o : Nat → Int} {m s q : Nat} (h : sdR T n p L1 N1 = some (s, q)) (hs : s < 256) : stP T n L1 N1 LD ND p o m = if 6000 ≤ m then none else some (false, q, putT o m s, m + 1) := by
  unfold stP
  rw [h]
  show (if s = 256 then _ else if s < 256 then (if 6000 ≤ m then none else some (false, q, putT o m s, m + 1)) else _) = _
  rw [if_neg (by omega), if_pos hs]
noncomputable def stF : Option (Nat × (Nat → Int) × Nat) → Option (Bool × Nat × (Nat → Int) × Nat)
  | none => none
  | some r => some (false, r)
theorem stP_m {T : Nat → Int} {n : Nat} {L1 : Nat → Nat} {N1 : Nat} {LD : Nat → Nat} {ND p : Nat} {o : Nat → Int} {m s q k : Nat} (h : sdR T n p L1 N1 = some (s, q)) (hs : 256 < s) (hk : k = s - 257) : stP T n L1 N1 LD ND p o m = stF (smU T n LD ND q k o m) := by
  rw [hk]
  unfold stP
  rw [h]
  show (if s = 256 then _ else if s < 256 then _ else if 285 < s then none else if 8 * n < q + LEf (s - 257) then none else (match stM T n LD ND q (s - 257) o m with
      | none => none
      | some r => some (false, r))) = _
  rw [if_neg (by omega), if_neg (by omega)]
  by_cases c1 : 285 < s
  · rw [if_pos c1, smU_n (.inl (by omega))]; rfl
  · rw [if_neg c1]
    by_cases c2 : 8 * n < q + LEf (s - 257)
    · rw [if_pos c2, smU_n (.inr c2)]; rfl
    · rw [if_neg c2]
      unfold smU
      rw [if_neg (by omega), if_neg c2]
      cases stM T n LD ND q (s - 257) o m with
      | none => rfl
      | some r => rfl
theorem upP_n {T : Nat → Int} {n : Nat} {L1 : Nat → Nat} {N1 : Nat} {LD : Nat → Nat} {ND F p : Nat} {o : Nat → Int} {m : Nat} (h : stP T n L1 N1 LD ND p o m = none) : upP T n L1 N1 LD ND F p o m = none := by
  cases F with
  | zero => rfl
  | succ F => unfold upP; rw [h]
theorem upP_t {T : Nat → Int} {n : Nat} {L1 : Nat → Nat} {N1 : Nat} {LD : Nat → Nat} {ND p : Nat} {o : Nat → Int} {m : Nat} {r : Nat × (Nat → Int) × Nat} (h : stP T n L1 N1 LD ND p o m = some (true, r)) : upP T n L1 N1 LD ND (8 * n) p o m = some r := by
  have h1 := stP_ok h
  have h2 : upP T n L1 N1 LD ND ((8 * n - 1) + 1) p o m = some r := by
    unfold upP
    rw [h]
  rw [show (8 * n - 1) + 1 = 8 * n by omega] at h2
  exact h2
theorem upP_g {T : Nat → Int} {n : Nat} {L1 : Nat → Nat} {N1 : Nat} {LD : Nat → Nat} {ND p : Nat} {o : Nat → Int} {m : Nat} {r : Nat × (Nat → Int) × Nat} (h : stP T n L1 N1 LD ND p o m = some (false, r)) : upP T n L1 N1 LD ND (8 * n) p o m = upP T n L1 N1 LD ND (8 * n) r.1 r.2.1 r.2.2 := by
  have h1 := stP_ok h
  have h2 : upP T n L1 N1 LD ND ((8 * n - 1) + 1) p o m = upP T n L1 N1 LD ND (8 * n - 1) r.1 r.2.1 r.2.2 := by
    show (match stP T n L1 N1 LD ND p o m with
      | none => none
      | some (true, r) => some r
      | some (false, r) => upP T n L1 N1 LD ND (8 * n - 1) r.1 r.2.1 r.2.2) = _
    rw [h]
  rw [show (8 * n - 1) + 1 = 8 * n by omega] at h2
  rw [h2]
  exact upP_fuel _ _ _ _ _ (by omega) (by omega)

end
