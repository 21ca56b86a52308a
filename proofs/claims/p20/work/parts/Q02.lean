/-! PRINTED by wip/pack: the model: longest, findParts -/
set_option maxRecDepth 4000 in
set_option maxHeartbeats 20000000 in
theorem d_longest_L0 {E : Nat → Nat × (Nat → Int32)} {d : Nat} {Q : ez_Q} {h : ez_H} {p : Int32} (S : zSh h) {N : Nat} (M6 : 0 ≤ (ez_I h 71 6).toInt ∧ (ez_I h 71 6).toInt ≤ 6000) (hb : aR (ez_I h 72) 6000 (-128) 127) (hC : chn (tI (ez_I h 81)) (pK (ez_I h 72)) N) (hN : (ez_I h 71 6).toInt ≤ N + 1) (hp : 0 ≤ p.toInt ∧ p.toInt < (ez_I h 71 6).toInt) (K : ∀ h2, zW (fun q k => q = 71 ∧ k = 17 ∨ q = 71 ∧ k = 18) (fun _ => False) (fun _ => False) h h2 → (ez_I h2 71 17).toInt = (mL (tB (ez_I h 72)) (ez_I h 71 6).toInt.toNat p.toInt.toNat : Nat) → (ez_I h2 71 18).toInt = (mD (tB (ez_I h 72)) (ez_I h 71 6).toInt.toNat p.toInt.toNat : Nat) → Q (.inl none) h2) : ∀ N : Nat, (∀ (h2 : ez_H) (li : Int32) (q : Int32) (l4 : Option Value) , zW (fun q k => q = 71 ∧ k = 17 ∨ q = 71 ∧ k = 18) (fun _ => False) (fun _ => False) h h2 → (li.toInt ≤ 258 ∧ li.toInt ≤ (ez_I h 71 6).toInt - p.toInt ∧ (li.toInt = 258 ∨ li.toInt = (ez_I h 71 6).toInt - p.toInt) ∧ -1 ≤ q.toInt ∧ q.toInt < p.toInt ∧ (li.toInt < 3 → q.toInt = -1)) → moP (tB (ez_I h 72)) p.toInt.toNat li.toInt.toNat q.toInt (ez_I h2 71 17).toInt (ez_I h2 71 18).toInt → (0 ≤ q.toInt → (pK (ez_I h 72)) q.toInt.toNat = (pK (ez_I h 72)) p.toInt.toNat) → (1000 * (q.toInt + 1)) < (N : Int) → pw E d 31 51 [some (.ref 71), some (.int p), some (.int li), some (.int q), l4] [] h2 Q) ∧ (∀ (h2 : ez_H) (li : Int32) (q : Int32) (n : Int32) , zW (fun q k => q = 71 ∧ k = 17 ∨ q = 71 ∧ k = 18) (fun _ => False) (fun _ => False) h h2 → (li.toInt ≤ 258 ∧ li.toInt ≤ (ez_I h 71 6).toInt - p.toInt ∧ (li.toInt = 258 ∨ li.toInt = (ez_I h 71 6).toInt - p.toInt) ∧ 3 ≤ li.toInt ∧ 0 ≤ q.toInt ∧ q.toInt < p.toInt ∧ p.toInt - q.toInt ≤ 4096 ∧ 0 ≤ n.toInt ∧ n.toInt ≤ li.toInt) → moP (tB (ez_I h 72)) p.toInt.toNat li.toInt.toNat q.toInt (ez_I h2 71 17).toInt (ez_I h2 71 18).toInt → (0 ≤ q.toInt → (pK (ez_I h 72)) q.toInt.toNat = (pK (ez_I h 72)) p.toInt.toNat) → (∀ k : Nat, (k : Int) < n.toInt → (tB (ez_I h 72)) (q.toInt.toNat + k) = (tB (ez_I h 72)) (p.toInt.toNat + k)) → (1000 * (q.toInt + 1) - 500 + (300 - n.toInt)) < (N : Int) → pw E d 31 75 [some (.ref 71), some (.int p), some (.int li), some (.int q), some (.int n)] [] h2 Q) := by
  intro N
  induction N with
  | zero => exact ⟨fun h2 li q l4  F hinv A_mo A_ky hm => absurd hm (by have w_li := z_rng li; have w_q := z_rng q; have gp := z_rng p; omega), fun h2 li q n  F hinv A_mo A_ky A_eq hm => absurd hm (by have w_li := z_rng li; have w_q := z_rng q; have w_n := z_rng n; have gp := z_rng p; omega)⟩
  | succ N ih =>
    refine ⟨fun h2 li q l4  F hinv A_mo A_ky hm => ?_, fun h2 li q n  F hinv A_mo A_ky A_eq hm => ?_⟩
    · skip
      have w_li := z_rng li
      have w_q := z_rng q
      have gp := z_rng p
      have S2 := zW_sh F S
      have hm2 := moP_2 A_mo
      apply ez_Wp_in
      show ez_gw _ _ _ _ _ _ (cz_31) _ _ _ _ _
      refine gw_skip _ ?_
      have r1 := z_rng (ez_I h2 71 17)
      have r2 := z_rng (ez_I h2 71 18)
      refine gw_ld rfl rfl ?_
      refine z_b1 (fun c3 => ?_) (fun c3 => ?_)
      · have c3 : q.toInt < 0 := c3
        refine gw_skip _ ?_
        refine gw_ld rfl rfl ?_
        refine z_gI2 (by decide) (zT S2 (by decide) rfl) (rfl) ?_
        refine z_b1 (fun c4 => ?_) (fun c4 => ?_)
        · have c4 : ((ez_I h2 71 18)).toInt ≠ 0 := c4
          refine gw_skip _ ?_
          refine z_rv ?_
          obtain ⟨z1, z2⟩ := moP_e (n := (ez_I h 71 6).toInt.toNat) (x := (ez_I h2 71 17).toInt) A_mo (by omega) (by omega) (by omega) (by omega)
          exact K _ F (by omega) (by omega)
        · have c4 : ¬ (((ez_I h2 71 18)).toInt ≠ 0) := c4
          refine gw_ld rfl rfl ?_
          refine z_C (m := 0) rfl rfl (fun x5 ex5 => ?_)
          refine z_pI (zT S2 (by decide) rfl) (fun h6 e7 => ?_)
          have S8 := zSh_set S2 e7
          have F9 := zW_setF F e7 (by omega)
          have f10 : ez_I h6 71 17 = x5 := zI_eq e7
          have f11 : ez_I h6 71 18 = (ez_I h2 71 18) := (zI_ne e7 (by decide)).trans (rfl)
          refine z_rv ?_
          have t12 := congrArg Int32.toInt (f10)
          have t13 := congrArg Int32.toInt (f11)
          obtain ⟨z1, z2⟩ := moP_e (n := (ez_I h 71 6).toInt.toNat) (x := (ez_I h6 71 17).toInt) A_mo (by omega) (by omega) (by omega) (by omega)
          exact K _ F9 (by omega) (by omega)
      · have c3 : ¬ (q.toInt < 0) := c3
        refine gw_ld rfl rfl ?_
        refine gw_ld rfl rfl ?_
        refine z_sub (by omega) (fun x14 ex14 => ?_)
        refine z_C (m := 4096) rfl rfl (fun x15 ex15 => ?_)
        refine z_b2 (fun c16 => ?_) (fun c16 => ?_)
        · have c16 : x15.toInt < x14.toInt := c16
          refine gw_skip _ ?_
          refine gw_ld rfl rfl ?_
          refine z_gI2 (by decide) (zT S2 (by decide) rfl) (rfl) ?_
          refine z_b1 (fun c17 => ?_) (fun c17 => ?_)
          · have c17 : ((ez_I h2 71 18)).toInt ≠ 0 := c17
            refine gw_skip _ ?_
            refine z_rv ?_
            obtain ⟨z1, z2⟩ := moP_e (n := (ez_I h 71 6).toInt.toNat) (x := (ez_I h2 71 17).toInt) A_mo (by omega) (by omega) (by omega) (by omega)
            exact K _ F (by omega) (by omega)
          · have c17 : ¬ (((ez_I h2 71 18)).toInt ≠ 0) := c17
            refine gw_ld rfl rfl ?_
            refine z_C (m := 0) rfl rfl (fun x18 ex18 => ?_)
            refine z_pI (zT S2 (by decide) rfl) (fun h19 e20 => ?_)
            have S21 := zSh_set S2 e20
            have F22 := zW_setF F e20 (by omega)
            have f23 : ez_I h19 71 17 = x18 := zI_eq e20
            have f24 : ez_I h19 71 18 = (ez_I h2 71 18) := (zI_ne e20 (by decide)).trans (rfl)
            refine z_rv ?_
            have t25 := congrArg Int32.toInt (f23)
            have t26 := congrArg Int32.toInt (f24)
            obtain ⟨z1, z2⟩ := moP_e (n := (ez_I h 71 6).toInt.toNat) (x := (ez_I h19 71 17).toInt) A_mo (by omega) (by omega) (by omega) (by omega)
            exact K _ F22 (by omega) (by omega)
        · have c16 : ¬ (x15.toInt < x14.toInt) := c16
          refine gw_ld rfl rfl ?_
          refine z_gI2 (by decide) (zT S2 (by decide) rfl) (rfl) ?_
          refine gw_ld rfl rfl ?_
          refine z_b2 (fun c27 => ?_) (fun c27 => ?_)
          · have c27 : li.toInt ≤ ((ez_I h2 71 17)).toInt := c27
            refine gw_skip _ ?_
            refine gw_ld rfl rfl ?_
            refine z_gI2 (by decide) (zT S2 (by decide) rfl) (rfl) ?_
            refine z_b1 (fun c28 => ?_) (fun c28 => ?_)
            · have c28 : ((ez_I h2 71 18)).toInt ≠ 0 := c28
              refine gw_skip _ ?_
              refine z_rv ?_
              obtain ⟨z1, z2⟩ := moP_e (n := (ez_I h 71 6).toInt.toNat) (x := (ez_I h2 71 17).toInt) A_mo (by omega) (by omega) (by omega) (by omega)
              exact K _ F (by omega) (by omega)
            · have c28 : ¬ (((ez_I h2 71 18)).toInt ≠ 0) := c28
              refine gw_ld rfl rfl ?_
              refine z_C (m := 0) rfl rfl (fun x29 ex29 => ?_)
              refine z_pI (zT S2 (by decide) rfl) (fun h30 e31 => ?_)
              have S32 := zSh_set S2 e31
              have F33 := zW_setF F e31 (by omega)
              have f34 : ez_I h30 71 17 = x29 := zI_eq e31
              have f35 : ez_I h30 71 18 = (ez_I h2 71 18) := (zI_ne e31 (by decide)).trans (rfl)
              refine z_rv ?_
              have t36 := congrArg Int32.toInt (f34)
              have t37 := congrArg Int32.toInt (f35)
              obtain ⟨z1, z2⟩ := moP_e (n := (ez_I h 71 6).toInt.toNat) (x := (ez_I h30 71 17).toInt) A_mo (by omega) (by omega) (by omega) (by omega)
              exact K _ F33 (by omega) (by omega)
          · have c27 : ¬ (li.toInt ≤ ((ez_I h2 71 17)).toInt) := c27
            refine z_C (m := 0) rfl rfl (fun x38 ex38 => ?_)
            refine gw_st rfl rfl rfl ?_
            show ez_gw _ _ _ _ _ _ _ _ [some (.ref 71), some (.int p), some (.int li), some (.int q), some (.int x38)] _ _ _
            exact ez_Wp_at (ih.2 h2 li q x38 F (by omega) A_mo A_ky (fun k hk => by omega) (by omega)) rfl
    · skip
      have w_li := z_rng li
      have w_q := z_rng q
      have w_n := z_rng n
      have gp := z_rng p
      have S2 := zW_sh F S
      have hm2 := moP_2 A_mo
      apply ez_Wp_in
      show ez_gw _ _ _ _ _ _ (cz_31) _ _ _ _ _
      refine gw_skip _ ?_
      have r39 := z_rng (ez_I h2 71 17)
      have r40 := z_rng (ez_I h2 71 18)
      refine gw_ld rfl rfl ?_
      refine gw_ld rfl rfl ?_
      refine z_b2 (fun c41 => ?_) (fun c41 => ?_)
      · have c41 : li.toInt ≤ n.toInt := c41
        refine gw_skip _ ?_
        have hlc : n.toInt = (lc (tB (ez_I h 72)) q.toInt.toNat p.toInt.toNat li.toInt.toNat : Nat) := lcT_e1 A_eq (by omega) (by omega)
        refine gw_ld rfl rfl ?_
        refine gw_ld rfl rfl ?_
        refine z_gI2 (by decide) (zT S2 (by decide) rfl) (rfl) ?_
        refine z_b2 (fun c42 => ?_) (fun c42 => ?_)
        · have c42 : ((ez_I h2 71 17)).toInt < n.toInt := c42
          refine gw_skip _ ?_
          refine gw_ld rfl rfl ?_
          refine gw_ld rfl rfl ?_
          refine z_pI (zT S2 (by decide) rfl) (fun h43 e44 => ?_)
          have S45 := zSh_set S2 e44
          have F46 := zW_setF F e44 (by omega)
          have f47 : ez_I h43 71 17 = n := zI_eq e44
          have f48 : ez_I h43 71 18 = (ez_I h2 71 18) := (zI_ne e44 (by decide)).trans (rfl)
          refine gw_ld rfl rfl ?_
          refine gw_ld rfl rfl ?_
          refine gw_ld rfl rfl ?_
          refine z_sub (by omega) (fun x49 ex49 => ?_)
          refine z_pI (zT S45 (by decide) rfl) (fun h50 e51 => ?_)
          have S52 := zSh_set S45 e51
          have F53 := zW_setF F46 e51 (by omega)
          have f54 : ez_I h50 71 17 = n := (zI_ne e51 (by decide)).trans (f47)
          have f55 : ez_I h50 71 18 = x49 := zI_eq e51
          refine gw_ld rfl rfl ?_
          refine z_gR (q := 81) (zT S52 (by decide) rfl) (zRf S52 (by decide) (by decide) rfl) (by decide) ?_
          refine gw_ld rfl rfl ?_
          refine z_iaV (n := 6000) (zT S52 (by decide) rfl) (zN S52 (by decide) rfl) (by omega) (zW_f F53 (fun c => c) (by omega)) ?_
          generalize ex56 : ez_I h 81 q.toInt.toNat = x56
          have rx56 := z_rng x56
          obtain ⟨y1x56, y2x56, y3x56, y4x56⟩ := hC q.toInt.toNat (by omega)
          have efx56 : tI (ez_I h 81) q.toInt.toNat = x56.toInt := congrArg Int32.toInt ex56
          rw [efx56] at y1x56 y2x56 y3x56
          clear y4x56
          refine gw_st rfl rfl rfl ?_
          show ez_gw _ _ _ _ _ _ _ _ [some (.ref 71), some (.int p), some (.int li), some (.int x56), some (.int n)] _ _ _
          refine z_go ?_
          have t57 := congrArg Int32.toInt (f54)
          have t58 := congrArg Int32.toInt (f55)
          exact ih.1 h50 li x56 (some (.int n)) F53 (by omega) (moP_y A_mo hC (pK_tri _ _) (by omega) (by omega) (A_ky (by omega)) (by omega) efx56.symm (by omega) (by omega) (by omega)) (fun q => (y3x56 q).trans (A_ky (by omega))) (by omega)
        · have c42 : ¬ (((ez_I h2 71 17)).toInt < n.toInt) := c42
          refine z_go ?_
          refine gw_skip _ ?_
          refine gw_ld rfl rfl ?_
          refine z_gR (q := 81) (zT S2 (by decide) rfl) (zRf S2 (by decide) (by decide) rfl) (by decide) ?_
          refine gw_ld rfl rfl ?_
          refine z_iaV (n := 6000) (zT S2 (by decide) rfl) (zN S2 (by decide) rfl) (by omega) (zW_f F (fun c => c) (by omega)) ?_
          generalize ex59 : ez_I h 81 q.toInt.toNat = x59
          have rx59 := z_rng x59
          obtain ⟨y1x59, y2x59, y3x59, y4x59⟩ := hC q.toInt.toNat (by omega)
          have efx59 : tI (ez_I h 81) q.toInt.toNat = x59.toInt := congrArg Int32.toInt ex59
          rw [efx59] at y1x59 y2x59 y3x59
          clear y4x59
          refine gw_st rfl rfl rfl ?_
          show ez_gw _ _ _ _ _ _ _ _ [some (.ref 71), some (.int p), some (.int li), some (.int x59), some (.int n)] _ _ _
          refine z_go ?_
          exact ih.1 h2 li x59 (some (.int n)) F (by omega) (moP_n A_mo hC (pK_tri _ _) (by omega) (by omega) (A_ky (by omega)) (by omega) efx59.symm (by omega)) (fun q => (y3x59 q).trans (A_ky (by omega))) (by omega)
      · have c41 : ¬ (li.toInt ≤ n.toInt) := c41
        refine gw_ld rfl rfl ?_
        refine z_gR (q := 72) (zT S2 (by decide) rfl) (zRf S2 (by decide) (by decide) rfl) (by decide) ?_
        refine gw_ld rfl rfl ?_
        refine gw_ld rfl rfl ?_
        refine z_add (by omega) (fun x60 ex60 => ?_)
        refine z_baV (n := 6000) (zT S2 (by decide) rfl) (zN S2 (by decide) rfl) (by omega) (zW_f F (fun c => c) (by omega)) ?_
        generalize ex61 : ez_I h 72 x60.toInt.toNat = x61
        have rx61 := z_rng x61
        have yx61 := hb x60.toInt.toNat (by omega)
        rw [ex61] at yx61
        refine gw_ld rfl rfl ?_
        refine z_gR (q := 72) (zT S2 (by decide) rfl) (zRf S2 (by decide) (by decide) rfl) (by decide) ?_
        refine gw_ld rfl rfl ?_
        refine gw_ld rfl rfl ?_
        refine z_add (by omega) (fun x62 ex62 => ?_)
        refine z_baV (n := 6000) (zT S2 (by decide) rfl) (zN S2 (by decide) rfl) (by omega) (zW_f F (fun c => c) (by omega)) ?_
        generalize ex63 : ez_I h 72 x62.toInt.toNat = x63
        have rx63 := z_rng x63
        have yx63 := hb x62.toInt.toNat (by omega)
        rw [ex63] at yx63
        refine z_b2 (fun c64 => ?_) (fun c64 => ?_)
        · have c64 : x61.toInt ≠ x63.toInt := c64
          refine gw_skip _ ?_
          have hlc : n.toInt = (lc (tB (ez_I h 72)) q.toInt.toNat p.toInt.toNat li.toInt.toNat : Nat) := lcT_e2 A_eq (by omega) (by omega) (by omega) (by omega) (x := x60.toInt) (y := x62.toInt) (by omega) (by omega) (congrArg (fun v : Int32 => v.toInt % 256) ex61) (congrArg (fun v : Int32 => v.toInt % 256) ex63) (by omega)
          refine gw_ld rfl rfl ?_
          refine gw_ld rfl rfl ?_
          refine z_gI2 (by decide) (zT S2 (by decide) rfl) (rfl) ?_
          refine z_b2 (fun c65 => ?_) (fun c65 => ?_)
          · have c65 : ((ez_I h2 71 17)).toInt < n.toInt := c65
            refine gw_skip _ ?_
            refine gw_ld rfl rfl ?_
            refine gw_ld rfl rfl ?_
            refine z_pI (zT S2 (by decide) rfl) (fun h66 e67 => ?_)
            have S68 := zSh_set S2 e67
            have F69 := zW_setF F e67 (by omega)
            have f70 : ez_I h66 71 17 = n := zI_eq e67
            have f71 : ez_I h66 71 18 = (ez_I h2 71 18) := (zI_ne e67 (by decide)).trans (rfl)
            refine gw_ld rfl rfl ?_
            refine gw_ld rfl rfl ?_
            refine gw_ld rfl rfl ?_
            refine z_sub (by omega) (fun x72 ex72 => ?_)
            refine z_pI (zT S68 (by decide) rfl) (fun h73 e74 => ?_)
            have S75 := zSh_set S68 e74
            have F76 := zW_setF F69 e74 (by omega)
            have f77 : ez_I h73 71 17 = n := (zI_ne e74 (by decide)).trans (f70)
            have f78 : ez_I h73 71 18 = x72 := zI_eq e74
            refine gw_ld rfl rfl ?_
            refine z_gR (q := 81) (zT S75 (by decide) rfl) (zRf S75 (by decide) (by decide) rfl) (by decide) ?_
            refine gw_ld rfl rfl ?_
            refine z_iaV (n := 6000) (zT S75 (by decide) rfl) (zN S75 (by decide) rfl) (by omega) (zW_f F76 (fun c => c) (by omega)) ?_
            generalize ex79 : ez_I h 81 q.toInt.toNat = x79
            have rx79 := z_rng x79
            obtain ⟨y1x79, y2x79, y3x79, y4x79⟩ := hC q.toInt.toNat (by omega)
            have efx79 : tI (ez_I h 81) q.toInt.toNat = x79.toInt := congrArg Int32.toInt ex79
            rw [efx79] at y1x79 y2x79 y3x79
            clear y4x79
            refine gw_st rfl rfl rfl ?_
            show ez_gw _ _ _ _ _ _ _ _ [some (.ref 71), some (.int p), some (.int li), some (.int x79), some (.int n)] _ _ _
            refine z_go ?_
            have t80 := congrArg Int32.toInt (f77)
            have t81 := congrArg Int32.toInt (f78)
            exact ih.1 h73 li x79 (some (.int n)) F76 (by omega) (moP_y A_mo hC (pK_tri _ _) (by omega) (by omega) (A_ky (by omega)) (by omega) efx79.symm (by omega) (by omega) (by omega)) (fun q => (y3x79 q).trans (A_ky (by omega))) (by omega)
          · have c65 : ¬ (((ez_I h2 71 17)).toInt < n.toInt) := c65
            refine z_go ?_
            refine gw_skip _ ?_
            refine gw_ld rfl rfl ?_
            refine z_gR (q := 81) (zT S2 (by decide) rfl) (zRf S2 (by decide) (by decide) rfl) (by decide) ?_
            refine gw_ld rfl rfl ?_
            refine z_iaV (n := 6000) (zT S2 (by decide) rfl) (zN S2 (by decide) rfl) (by omega) (zW_f F (fun c => c) (by omega)) ?_
            generalize ex82 : ez_I h 81 q.toInt.toNat = x82
            have rx82 := z_rng x82
            obtain ⟨y1x82, y2x82, y3x82, y4x82⟩ := hC q.toInt.toNat (by omega)
            have efx82 : tI (ez_I h 81) q.toInt.toNat = x82.toInt := congrArg Int32.toInt ex82
            rw [efx82] at y1x82 y2x82 y3x82
            clear y4x82
            refine gw_st rfl rfl rfl ?_
            show ez_gw _ _ _ _ _ _ _ _ [some (.ref 71), some (.int p), some (.int li), some (.int x82), some (.int n)] _ _ _
            refine z_go ?_
            exact ih.1 h2 li x82 (some (.int n)) F (by omega) (moP_n A_mo hC (pK_tri _ _) (by omega) (by omega) (A_ky (by omega)) (by omega) efx82.symm (by omega)) (fun q => (y3x82 q).trans (A_ky (by omega))) (by omega)
        · have c64 : ¬ (x61.toInt ≠ x63.toInt) := c64
          refine z_inc rfl (by rw [show (1 : Int32).toInt = 1 from rfl]; omega) (fun x83 ex83 => ?_)
          rw [show (1 : Int32).toInt = 1 from rfl] at ex83
          show ez_gw _ _ _ _ _ _ _ _ [some (.ref 71), some (.int p), some (.int li), some (.int q), some (.int x83)] _ _ _
          refine z_go ?_
          exact ih.2 h2 li q x83 F (by omega) A_mo A_ky (lcT_s A_eq (by omega) (by omega) (by omega) (x := x60.toInt) (y := x62.toInt) (by omega) (by omega) (congrArg (fun v : Int32 => v.toInt % 256) ex61) (congrArg (fun v : Int32 => v.toInt % 256) ex63) (by omega) (by omega)) (by omega)
set_option maxRecDepth 4000 in
set_option maxHeartbeats 20000000 in
theorem d_longest {E : Nat → Nat × (Nat → Int32)} {d : Nat} {Q : ez_Q} {h : ez_H} {p : Int32} (S : zSh h) {N : Nat} (M6 : 0 ≤ (ez_I h 71 6).toInt ∧ (ez_I h 71 6).toInt ≤ 6000) (hb : aR (ez_I h 72) 6000 (-128) 127) (hC : chn (tI (ez_I h 81)) (pK (ez_I h 72)) N) (hN : (ez_I h 71 6).toInt ≤ N + 1) (hp : 0 ≤ p.toInt ∧ p.toInt < (ez_I h 71 6).toInt) (K : ∀ h2, zW (fun q k => q = 71 ∧ k = 17 ∨ q = 71 ∧ k = 18) (fun _ => False) (fun _ => False) h h2 → (ez_I h2 71 17).toInt = (mL (tB (ez_I h 72)) (ez_I h 71 6).toInt.toNat p.toInt.toNat : Nat) → (ez_I h2 71 18).toInt = (mD (tB (ez_I h 72)) (ez_I h 71 6).toInt.toNat p.toInt.toNat : Nat) → Q (.inl none) h2) : pw E d 31 0 [some (.ref 71), some (.int p), none, none, none] [] h Q := by
  have gp := z_rng p
  have F := zW_refl (fun q k => q = 71 ∧ k = 17 ∨ q = 71 ∧ k = 18) (fun _ => False) (fun _ => False) h
  apply ez_Wp_in
  show ez_gw _ _ _ _ _ _ (cz_31) _ _ _ _ _
  refine gw_skip _ ?_
  have r1 := z_rng (ez_I h 71 17)
  have r2 := z_rng (ez_I h 71 18)
  refine gw_ld rfl rfl ?_
  have r3 := z_rng (ez_I h 71 6)
  refine z_gI2 (by decide) (zT S (by decide) rfl) (zW_f F (fun c => c) (by decide)) ?_
  refine gw_ld rfl rfl ?_
  refine z_sub (by omega) (fun x4 ex4 => ?_)
  refine z_C (m := 258) rfl rfl (fun x5 ex5 => ?_)
  refine z_b2 (fun c6 => ?_) (fun c6 => ?_)
  · have c6 : x5.toInt ≤ x4.toInt := c6
    refine gw_skip _ ?_
    refine z_C (m := 258) rfl rfl (fun x7 ex7 => ?_)
    refine gw_st rfl rfl rfl ?_
    show ez_gw _ _ _ _ _ _ _ _ [some (.ref 71), some (.int p), some (.int x7), none, none] _ _ _
    refine gw_ld rfl rfl ?_
    refine z_C (m := 2) rfl rfl (fun x8 ex8 => ?_)
    refine z_pI (zT S (by decide) rfl) (fun h9 e10 => ?_)
    have S11 := zSh_set S e10
    have F12 := zW_setF F e10 (by omega)
    have f13 : ez_I h9 71 17 = x8 := zI_eq e10
    have f14 : ez_I h9 71 18 = (ez_I h 71 18) := (zI_ne e10 (by decide)).trans (rfl)
    refine gw_ld rfl rfl ?_
    refine z_C (m := 0) rfl rfl (fun x15 ex15 => ?_)
    refine z_pI (zT S11 (by decide) rfl) (fun h16 e17 => ?_)
    have S18 := zSh_set S11 e17
    have F19 := zW_setF F12 e17 (by omega)
    have f20 : ez_I h16 71 17 = x8 := (zI_ne e17 (by decide)).trans (f13)
    have f21 : ez_I h16 71 18 = x15 := zI_eq e17
    refine gw_ld rfl rfl ?_
    refine z_C (m := 3) rfl rfl (fun x22 ex22 => ?_)
    refine z_b2 (fun c23 => ?_) (fun c23 => ?_)
    · have c23 : x22.toInt ≤ x7.toInt := c23
      refine gw_skip _ ?_
      refine gw_ld rfl rfl ?_
      refine z_gR (q := 81) (zT S18 (by decide) rfl) (zRf S18 (by decide) (by decide) rfl) (by decide) ?_
      refine gw_ld rfl rfl ?_
      refine z_iaV (n := 6000) (zT S18 (by decide) rfl) (zN S18 (by decide) rfl) (by omega) (zW_f F19 (fun c => c) (by omega)) ?_
      generalize ex24 : ez_I h 81 p.toInt.toNat = x24
      have rx24 := z_rng x24
      obtain ⟨y1x24, y2x24, y3x24, y4x24⟩ := hC p.toInt.toNat (by omega)
      have efx24 : tI (ez_I h 81) p.toInt.toNat = x24.toInt := congrArg Int32.toInt ex24
      rw [efx24] at y1x24 y2x24 y3x24
      clear y4x24
      refine gw_st rfl rfl rfl ?_
      show ez_gw _ _ _ _ _ _ _ _ [some (.ref 71), some (.int p), some (.int x7), some (.int x24), none] _ _ _
      have t25 := congrArg Int32.toInt (f20)
      have t26 := congrArg Int32.toInt (f21)
      exact ez_Wp_at ((d_longest_L0 (p := p) S M6 hb hC hN hp K (((1000 * (x24.toInt + 1))).toNat + 1)).1 h16 x7 x24 (none) F19 (by omega) (moP_0 hC (pK_tri _ _) (by omega) efx24.symm (by omega) (by omega)) (fun q => y3x24 q) (by omega)) rfl
    · have c23 : ¬ (x22.toInt ≤ x7.toInt) := c23
      exfalso; omega
  · have c6 : ¬ (x5.toInt ≤ x4.toInt) := c6
    refine gw_ld rfl rfl ?_
    refine z_gI2 (by decide) (zT S (by decide) rfl) (zW_f F (fun c => c) (by decide)) ?_
    refine gw_ld rfl rfl ?_
    refine z_sub (by omega) (fun x27 ex27 => ?_)
    refine z_go ?_
    refine gw_skip _ ?_
    refine gw_st rfl rfl rfl ?_
    show ez_gw _ _ _ _ _ _ _ _ [some (.ref 71), some (.int p), some (.int x27), none, none] _ _ _
    refine gw_ld rfl rfl ?_
    refine z_C (m := 2) rfl rfl (fun x28 ex28 => ?_)
    refine z_pI (zT S (by decide) rfl) (fun h29 e30 => ?_)
    have S31 := zSh_set S e30
    have F32 := zW_setF F e30 (by omega)
    have f33 : ez_I h29 71 17 = x28 := zI_eq e30
    have f34 : ez_I h29 71 18 = (ez_I h 71 18) := (zI_ne e30 (by decide)).trans (rfl)
    refine gw_ld rfl rfl ?_
    refine z_C (m := 0) rfl rfl (fun x35 ex35 => ?_)
    refine z_pI (zT S31 (by decide) rfl) (fun h36 e37 => ?_)
    have S38 := zSh_set S31 e37
    have F39 := zW_setF F32 e37 (by omega)
    have f40 : ez_I h36 71 17 = x28 := (zI_ne e37 (by decide)).trans (f33)
    have f41 : ez_I h36 71 18 = x35 := zI_eq e37
    refine gw_ld rfl rfl ?_
    refine z_C (m := 3) rfl rfl (fun x42 ex42 => ?_)
    refine z_b2 (fun c43 => ?_) (fun c43 => ?_)
    · have c43 : x42.toInt ≤ x27.toInt := c43
      refine gw_skip _ ?_
      refine gw_ld rfl rfl ?_
      refine z_gR (q := 81) (zT S38 (by decide) rfl) (zRf S38 (by decide) (by decide) rfl) (by decide) ?_
      refine gw_ld rfl rfl ?_
      refine z_iaV (n := 6000) (zT S38 (by decide) rfl) (zN S38 (by decide) rfl) (by omega) (zW_f F39 (fun c => c) (by omega)) ?_
      generalize ex44 : ez_I h 81 p.toInt.toNat = x44
      have rx44 := z_rng x44
      obtain ⟨y1x44, y2x44, y3x44, y4x44⟩ := hC p.toInt.toNat (by omega)
      have efx44 : tI (ez_I h 81) p.toInt.toNat = x44.toInt := congrArg Int32.toInt ex44
      rw [efx44] at y1x44 y2x44 y3x44
      clear y4x44
      refine gw_st rfl rfl rfl ?_
      show ez_gw _ _ _ _ _ _ _ _ [some (.ref 71), some (.int p), some (.int x27), some (.int x44), none] _ _ _
      have t45 := congrArg Int32.toInt (f40)
      have t46 := congrArg Int32.toInt (f41)
      exact ez_Wp_at ((d_longest_L0 (p := p) S M6 hb hC hN hp K (((1000 * (x44.toInt + 1))).toNat + 1)).1 h36 x27 x44 (none) F39 (by omega) (moP_0 hC (pK_tri _ _) (by omega) efx44.symm (by omega) (by omega)) (fun q => y3x44 q) (by omega)) rfl
    · have c43 : ¬ (x42.toInt ≤ x27.toInt) := c43
      refine z_C (m := -1) rfl rfl (fun x47 ex47 => ?_)
      refine z_go ?_
      refine gw_skip _ ?_
      refine gw_st rfl rfl rfl ?_
      show ez_gw _ _ _ _ _ _ _ _ [some (.ref 71), some (.int p), some (.int x27), some (.int x47), none] _ _ _
      have t48 := congrArg Int32.toInt (f40)
      have t49 := congrArg Int32.toInt (f41)
      exact ez_Wp_at ((d_longest_L0 (p := p) S M6 hb hC hN hp K (((1000 * (x47.toInt + 1))).toNat + 1)).1 h36 x27 x47 (none) F39 (by omega) (moP_z (by omega) (by omega) (by omega)) (fun q => by exfalso; omega) (by omega)) rfl
set_option maxRecDepth 4000 in
set_option maxHeartbeats 20000000 in
theorem d_findParts_L2 {E : Nat → Nat × (Nat → Int32)} {d : Nat} {Q : ez_Q} {h : ez_H}  (S : zSh h) (M6 : 0 ≤ (ez_I h 71 6).toInt ∧ (ez_I h 71 6).toInt ≤ 6000) (hb : aR (ez_I h 72) 6000 (-128) 127) (K : ∀ h2, zW (fun q k => q = 71 ∧ k = 14 ∨ q = 71 ∧ k = 17 ∨ q = 71 ∧ k = 18) (fun q => 77 ≤ q ∧ q ≤ 82) (fun _ => False) h h2 → ∀ c : Nat, (ez_I h2 71 14).toInt = c → ptP (tB (ez_I h 72)) (ez_I h 71 6).toInt.toNat c = (ez_I h 71 6).toInt.toNat → ltP (tB (ez_I h 72)) (ez_I h 71 6).toInt.toNat c → pmI (ez_I h2 77) (ez_I h2 78) (ez_I h2 79) (ez_I h2 80) (tB (ez_I h 72)) (ez_I h 71 6).toInt.toNat c → Q (.inl none) h2) : ∀ N : Nat, (∀ (h2 : ez_H) (p : Int32) (l2 : Option Value) (l3 : Option Value) (c : Nat), zW (fun q k => q = 71 ∧ k = 14 ∨ q = 71 ∧ k = 17 ∨ q = 71 ∧ k = 18) (fun q => 77 ≤ q ∧ q ≤ 82) (fun _ => False) h h2 → (0 ≤ p.toInt ∧ p.toInt ≤ (ez_I h 71 6).toInt ∧ (ez_I h2 71 14).toInt = c ∧ p.toInt = (ptP (tB (ez_I h 72)) (ez_I h 71 6).toInt.toNat c : Nat)) → chn (tI (ez_I h2 81)) (pK (ez_I h 72)) ((ez_I h 71 6).toInt.toNat - 1) → pmI (ez_I h2 77) (ez_I h2 78) (ez_I h2 79) (ez_I h2 80) (tB (ez_I h 72)) (ez_I h 71 6).toInt.toNat c → ltP (tB (ez_I h 72)) (ez_I h 71 6).toInt.toNat c → (10000 - p.toInt) < (N : Int) → pw E (d + 1) 32 111 [some (.ref 71), some (.int p), l2, l3] [] h2 Q) := by
  intro N
  induction N with
  | zero => exact fun h2 p l2 l3 c F hinv A_ch A_pm A_lt hm => absurd hm (by have w_p := z_rng p; omega)
  | succ N ih =>
    refine fun h2 p l2 l3 c F hinv A_ch A_pm A_lt hm => ?_
    · skip
      have w_p := z_rng p
      have S2 := zW_sh F S
      have hpl : ptP (tB (ez_I h 72)) (ez_I h 71 6).toInt.toNat c = p.toInt.toNat := by omega
      have hk := mL_ok (tB (ez_I h 72)) (ez_I h 71 6).toInt.toNat p.toInt.toNat
      have hk2 := mL_ok (tB (ez_I h 72)) (ez_I h 71 6).toInt.toNat (p.toInt.toNat + 1)
      have hcp := ptP_k c A_lt
      have hpp : p.toInt.toNat < (ez_I h 71 6).toInt.toNat → _ := fun q => ptP_s (T := (tB (ez_I h 72))) (n := (ez_I h 71 6).toInt.toNat) (k := c) (by omega)
      apply ez_Wp_in
      show ez_gw _ _ _ _ _ _ (cz_32) _ _ _ _ _
      refine gw_skip _ ?_
      have r1 := z_rng (ez_I h2 71 14)
      have r2 := z_rng (ez_I h2 71 17)
      have r3 := z_rng (ez_I h2 71 18)
      refine gw_ld rfl rfl ?_
      refine gw_ld rfl rfl ?_
      have r4 := z_rng (ez_I h 71 6)
      refine z_gI2 (by decide) (zT S2 (by decide) rfl) (zW_f F (by decide) (by decide)) ?_
      refine z_b2 (fun c5 => ?_) (fun c5 => ?_)
      · have c5 : ((ez_I h 71 6)).toInt ≤ p.toInt := c5
        refine gw_skip _ ?_
        refine z_rv ?_
        exact K _ F c (by omega) (by omega) A_lt A_pm
      · have c5 : ¬ (((ez_I h 71 6)).toInt ≤ p.toInt) := c5
        refine gw_ld rfl rfl ?_
        refine gw_ld rfl rfl ?_
        refine z_cl rfl rfl rfl rfl rfl rfl rfl rfl rfl rfl rfl (zT S2 (by decide) rfl) ?_
        refine d_longest (p := p) (N := (ez_I h 71 6).toInt.toNat - 1) S2 (by rw [(show ez_I h2 71 6 = ez_I h 71 6 from zW_f F (by decide) (by decide))]; omega) (by rw [(show ez_I h2 72 = ez_I h 72 from zW_fn F 72 (by decide) (fun k c => by omega))]; exact hb) (by rw [(show ez_I h2 72 = ez_I h 72 from zW_fn F 72 (by decide) (fun k c => by omega))]; exact A_ch) (by rw [(show ez_I h2 71 6 = ez_I h 71 6 from zW_f F (by decide) (by decide))]; omega) (by rw [(show ez_I h2 71 6 = ez_I h 71 6 from zW_f F (by decide) (by decide))]; omega) (fun h6 F7 k8 k9 => ?_)
        rw [(show ez_I h2 72 = ez_I h 72 from zW_fn F 72 (by decide) (fun k c => by omega)), (show ez_I h2 71 6 = ez_I h 71 6 from zW_f F (by decide) (by decide)), show p.toInt.toNat = p.toInt.toNat by omega] at k8 k9
        have S10 := zW_sh F7 S2
        have F11 := zW_tr F (zW_mono F7 (fun q k hk => by first | omega | exact False.elim hk) (fun q hk => by first | omega | exact False.elim hk) (fun q hk => by first | omega | exact False.elim hk))
        have f12 : ez_I h6 71 14 = (ez_I h2 71 14) := (zW_f F7 (fun c => c) (by decide)).trans (rfl)
        have r13 := z_rng (ez_I h6 71 17)
        have r14 := z_rng (ez_I h6 71 18)
        have A15 : chn (tI (ez_I h6 81)) (pK (ez_I h 72)) ((ez_I h 71 6).toInt.toNat - 1) := by rw [zW_fn F7 81 (fun c => c) (fun k c => by omega)]; exact A_ch
        have A16 : pmI (ez_I h6 77) (ez_I h6 78) (ez_I h6 79) (ez_I h6 80) (tB (ez_I h 72)) (ez_I h 71 6).toInt.toNat c := by rw [zW_fn F7 77 (fun c => c) (fun k c => by omega), zW_fn F7 78 (fun c => c) (fun k c => by omega), zW_fn F7 79 (fun c => c) (fun k c => by omega), zW_fn F7 80 (fun c => c) (fun k c => by omega)]; exact A_pm
        refine gw_ld rfl rfl ?_
        refine z_gI2 (by decide) (zT S10 (by decide) rfl) (rfl) ?_
        refine gw_st rfl rfl rfl ?_
        show ez_gw _ _ _ _ _ _ _ _ [some (.ref 71), some (.int p), some (.int (ez_I h6 71 17)), l3] _ _ _
        refine gw_ld rfl rfl ?_
        refine z_gI2 (by decide) (zT S10 (by decide) rfl) (rfl) ?_
        refine gw_st rfl rfl rfl ?_
        show ez_gw _ _ _ _ _ _ _ _ [some (.ref 71), some (.int p), some (.int (ez_I h6 71 17)), some (.int (ez_I h6 71 18))] _ _ _
        refine gw_ld rfl rfl ?_
        refine z_b1 (fun c17 => ?_) (fun c17 => ?_)
        · have c17 : ((ez_I h6 71 17)).toInt ≤ 0 := c17
          refine gw_skip _ ?_
          obtain ⟨Rw77, b77⟩ : ∃ f, ez_I h6 77 = f := ⟨_, rfl⟩
          obtain ⟨Rw78, b78⟩ : ∃ f, ez_I h6 78 = f := ⟨_, rfl⟩
          obtain ⟨Rw79, b79⟩ : ∃ f, ez_I h6 79 = f := ⟨_, rfl⟩
          obtain ⟨Rw80, b80⟩ : ∃ f, ez_I h6 80 = f := ⟨_, rfl⟩
          have hpm0 : pmI Rw77 Rw78 Rw79 Rw80 (tB (ez_I h 72)) (ez_I h 71 6).toInt.toNat c := by rw [← b77, ← b78, ← b79, ← b80]; exact A16
          obtain ⟨v1, v2⟩ := pt_mod (l := (ez_I h6 71 17).toInt) (w := (ez_I h6 71 18).toInt) (l2 := (ez_I h6 71 17).toInt) hpl (by omega) (by omega) (by omega)
          refine gw_ld rfl rfl ?_
          refine z_gR (q := 77) (zT S10 (by decide) rfl) (zRf S10 (by decide) (by decide) rfl) (by decide) ?_
          refine gw_ld rfl rfl ?_
          refine z_gI2 (by decide) (zT S10 (by decide) rfl) (f12) ?_
          refine gw_ld rfl rfl ?_
          refine z_b1 (fun c18 => ?_) (fun c18 => ?_)
          · have c18 : ((ez_I h6 71 17)).toInt ≤ 0 := c18
            refine gw_skip _ ?_
            refine z_C (m := 1) rfl rfl (fun x19 ex19 => ?_)
            refine z_is (n := 6000) (zT S10 (by decide) rfl) (zN S10 (by decide) rfl) (by omega) (fun h20 e21 => ?_)
            have S22 := zSh_set S10 e21
            have F23 := zW_setA F11 e21 (by omega)
            have f24 : ez_I h20 71 14 = (ez_I h2 71 14) := (zI_ne e21 (by omega)).trans (f12)
            have f25 : ez_I h20 71 17 = (ez_I h6 71 17) := (zI_ne e21 (by omega)).trans (rfl)
            have f26 : ez_I h20 71 18 = (ez_I h6 71 18) := (zI_ne e21 (by omega)).trans (rfl)
            have A27 : chn (tI (ez_I h20 81)) (pK (ez_I h 72)) ((ez_I h 71 6).toInt.toNat - 1) := by rw [zI_fn e21 81 (by decide)]; exact A15
            have A28 : ez_I h20 78 = Rw78 := by rw [zI_fn e21 78 (by decide)]; exact b78
            have A29 : ez_I h20 79 = Rw79 := by rw [zI_fn e21 79 (by decide)]; exact b79
            have A30 : ez_I h20 80 = Rw80 := by rw [zI_fn e21 80 (by decide)]; exact b80
            have A31 : (ez_I h20 77 c = x19 ∧ ∀ k, k ≠ c → ez_I h20 77 k = Rw77 k) := ⟨(by rw [show c = ((ez_I h2 71 14)).toInt.toNat by omega]; exact zI_eq e21), fun k hk => (zI_ne e21 (by omega)).trans (congrFun b77 k)⟩
            clear A15
            refine gw_ld rfl rfl ?_
            refine z_gR (q := 78) (zT S22 (by decide) rfl) (zRf S22 (by decide) (by decide) rfl) (by decide) ?_
            refine gw_ld rfl rfl ?_
            refine z_gI2 (by decide) (zT S22 (by decide) rfl) (f24) ?_
            refine gw_ld rfl rfl ?_
            refine z_b1 (fun c32 => ?_) (fun c32 => ?_)
            · have c32 : ((ez_I h6 71 17)).toInt ≤ 0 := c32
              refine gw_skip _ ?_
              refine z_C (m := 0) rfl rfl (fun x33 ex33 => ?_)
              refine z_is (n := 6000) (zT S22 (by decide) rfl) (zN S22 (by decide) rfl) (by omega) (fun h34 e35 => ?_)
              have S36 := zSh_set S22 e35
              have F37 := zW_setA F23 e35 (by omega)
              have f38 : ez_I h34 71 14 = (ez_I h2 71 14) := (zI_ne e35 (by omega)).trans (f24)
              have f39 : ez_I h34 71 17 = (ez_I h6 71 17) := (zI_ne e35 (by omega)).trans (f25)
              have f40 : ez_I h34 71 18 = (ez_I h6 71 18) := (zI_ne e35 (by omega)).trans (f26)
              have A41 : chn (tI (ez_I h34 81)) (pK (ez_I h 72)) ((ez_I h 71 6).toInt.toNat - 1) := by rw [zI_fn e35 81 (by decide)]; exact A27
              have A42 : ez_I h34 79 = Rw79 := by rw [zI_fn e35 79 (by decide)]; exact A29
              have A43 : ez_I h34 80 = Rw80 := by rw [zI_fn e35 80 (by decide)]; exact A30
              have A44 : (ez_I h34 77 c = x19 ∧ ∀ k, k ≠ c → ez_I h34 77 k = Rw77 k) := by rw [zI_fn e35 77 (by decide)]; exact A31
              have A45 : (ez_I h34 78 c = x33 ∧ ∀ k, k ≠ c → ez_I h34 78 k = Rw78 k) := ⟨(by rw [show c = ((ez_I h2 71 14)).toInt.toNat by omega]; exact zI_eq e35), fun k hk => (zI_ne e35 (by omega)).trans (congrFun A28 k)⟩
              clear A27
              clear A29
              clear A30
              clear A31
              refine gw_ld rfl rfl ?_
              refine z_gR (q := 79) (zT S36 (by decide) rfl) (zRf S36 (by decide) (by decide) rfl) (by decide) ?_
              refine gw_ld rfl rfl ?_
              refine z_gI2 (by decide) (zT S36 (by decide) rfl) (f38) ?_
              refine gw_ld rfl rfl ?_
              refine z_gR (q := 72) (zT S36 (by decide) rfl) (zRf S36 (by decide) (by decide) rfl) (by decide) ?_
              refine gw_ld rfl rfl ?_
              refine z_baV (n := 6000) (zT S36 (by decide) rfl) (zN S36 (by decide) rfl) (by omega) (zW_f F37 (by decide) (by omega)) ?_
              generalize ex46 : ez_I h 72 p.toInt.toNat = x46
              have rx46 := z_rng x46
              have yx46 := hb p.toInt.toNat (by omega)
              rw [ex46] at yx46
              refine z_C (m := 255) rfl rfl (fun x47 ex47 => ?_)
              refine z_and (fun x48 ex48 ux48 wx48 => ?_)
              have rx48 := z_rng x48
              replace ux48 := ux48 (by omega)
              clear wx48
              have vx48 := n_mask (k := 8) (by decide) (by omega) ex48
              rw [show (2 : Int) ^ 8 = 256 from rfl] at vx48
              refine z_is (n := 6000) (zT S36 (by decide) rfl) (zN S36 (by decide) rfl) (by omega) (fun h49 e50 => ?_)
              have S51 := zSh_set S36 e50
              have F52 := zW_setA F37 e50 (by omega)
              have f53 : ez_I h49 71 14 = (ez_I h2 71 14) := (zI_ne e50 (by omega)).trans (f38)
              have f54 : ez_I h49 71 17 = (ez_I h6 71 17) := (zI_ne e50 (by omega)).trans (f39)
              have f55 : ez_I h49 71 18 = (ez_I h6 71 18) := (zI_ne e50 (by omega)).trans (f40)
              have A56 : chn (tI (ez_I h49 81)) (pK (ez_I h 72)) ((ez_I h 71 6).toInt.toNat - 1) := by rw [zI_fn e50 81 (by decide)]; exact A41
              have A57 : ez_I h49 80 = Rw80 := by rw [zI_fn e50 80 (by decide)]; exact A43
              have A58 : (ez_I h49 77 c = x19 ∧ ∀ k, k ≠ c → ez_I h49 77 k = Rw77 k) := by rw [zI_fn e50 77 (by decide)]; exact A44
              have A59 : (ez_I h49 78 c = x33 ∧ ∀ k, k ≠ c → ez_I h49 78 k = Rw78 k) := by rw [zI_fn e50 78 (by decide)]; exact A45
              have A60 : (ez_I h49 79 c = x48 ∧ ∀ k, k ≠ c → ez_I h49 79 k = Rw79 k) := ⟨(by rw [show c = ((ez_I h2 71 14)).toInt.toNat by omega]; exact zI_eq e50), fun k hk => (zI_ne e50 (by omega)).trans (congrFun A42 k)⟩
              clear A41
              clear A43
              clear A44
              clear A45
              refine gw_ld rfl rfl ?_
              refine z_gR (q := 80) (zT S51 (by decide) rfl) (zRf S51 (by decide) (by decide) rfl) (by decide) ?_
              refine gw_ld rfl rfl ?_
              refine z_gI2 (by decide) (zT S51 (by decide) rfl) (f53) ?_
              refine gw_ld rfl rfl ?_
              refine z_gI2 (by decide) (zT S51 (by decide) rfl) (f53) ?_
              refine z_C (m := 600) rfl rfl (fun x61 ex61 => ?_)
              refine z_dvP (c := 600) ex61 (by decide) (by omega) (fun x62 ex62 => ?_)
              refine z_is (n := 6000) (zT S51 (by decide) rfl) (zN S51 (by decide) rfl) (by omega) (fun h63 e64 => ?_)
              have S65 := zSh_set S51 e64
              have F66 := zW_setA F52 e64 (by omega)
              have f67 : ez_I h63 71 14 = (ez_I h2 71 14) := (zI_ne e64 (by omega)).trans (f53)
              have f68 : ez_I h63 71 17 = (ez_I h6 71 17) := (zI_ne e64 (by omega)).trans (f54)
              have f69 : ez_I h63 71 18 = (ez_I h6 71 18) := (zI_ne e64 (by omega)).trans (f55)
              have A70 : chn (tI (ez_I h63 81)) (pK (ez_I h 72)) ((ez_I h 71 6).toInt.toNat - 1) := by rw [zI_fn e64 81 (by decide)]; exact A56
              have A71 : (ez_I h63 77 c = x19 ∧ ∀ k, k ≠ c → ez_I h63 77 k = Rw77 k) := by rw [zI_fn e64 77 (by decide)]; exact A58
              have A72 : (ez_I h63 78 c = x33 ∧ ∀ k, k ≠ c → ez_I h63 78 k = Rw78 k) := by rw [zI_fn e64 78 (by decide)]; exact A59
              have A73 : (ez_I h63 79 c = x48 ∧ ∀ k, k ≠ c → ez_I h63 79 k = Rw79 k) := by rw [zI_fn e64 79 (by decide)]; exact A60
              have A74 : (ez_I h63 80 c = x62 ∧ ∀ k, k ≠ c → ez_I h63 80 k = Rw80 k) := ⟨(by rw [show c = ((ez_I h2 71 14)).toInt.toNat by omega]; exact zI_eq e64), fun k hk => (zI_ne e64 (by omega)).trans (congrFun A57 k)⟩
              clear A56
              clear A58
              clear A59
              clear A60
              refine gw_ld rfl rfl ?_
              refine gw_op rfl ?_
              refine z_gI2 (by decide) (zT S65 (by decide) rfl) (f67) ?_
              refine z_C (m := 1) rfl rfl (fun x75 ex75 => ?_)
              refine z_add (by omega) (fun x76 ex76 => ?_)
              refine z_pI (zT S65 (by decide) rfl) (fun h77 e78 => ?_)
              have S79 := zSh_set S65 e78
              have F80 := zW_setF F66 e78 (by omega)
              have f81 : ez_I h77 71 14 = x76 := zI_eq e78
              have f82 : ez_I h77 71 17 = (ez_I h6 71 17) := (zI_ne e78 (by decide)).trans (f68)
              have f83 : ez_I h77 71 18 = (ez_I h6 71 18) := (zI_ne e78 (by decide)).trans (f69)
              have A84 : chn (tI (ez_I h77 81)) (pK (ez_I h 72)) ((ez_I h 71 6).toInt.toNat - 1) := by rw [zI_fn e78 81 (by decide)]; exact A70
              have A85 : (ez_I h77 77 c = x19 ∧ ∀ k, k ≠ c → ez_I h77 77 k = Rw77 k) := by rw [zI_fn e78 77 (by decide)]; exact A71
              have A86 : (ez_I h77 78 c = x33 ∧ ∀ k, k ≠ c → ez_I h77 78 k = Rw78 k) := by rw [zI_fn e78 78 (by decide)]; exact A72
              have A87 : (ez_I h77 79 c = x48 ∧ ∀ k, k ≠ c → ez_I h77 79 k = Rw79 k) := by rw [zI_fn e78 79 (by decide)]; exact A73
              have A88 : (ez_I h77 80 c = x62 ∧ ∀ k, k ≠ c → ez_I h77 80 k = Rw80 k) := by rw [zI_fn e78 80 (by decide)]; exact A74
              clear A70
              clear A71
              clear A72
              clear A73
              clear A74
              refine gw_ld rfl rfl ?_
              refine gw_ld rfl rfl ?_
              refine z_b1 (fun c89 => ?_) (fun c89 => ?_)
              · have c89 : ((ez_I h6 71 17)).toInt ≤ 0 := c89
                refine gw_skip _ ?_
                refine z_C (m := 1) rfl rfl (fun x90 ex90 => ?_)
                refine z_add (by omega) (fun x91 ex91 => ?_)
                refine gw_st rfl rfl rfl ?_
                show ez_gw _ _ _ _ _ _ _ _ [some (.ref 71), some (.int x91), some (.int (ez_I h6 71 17)), some (.int (ez_I h6 71 18))] _ _ _
                refine z_go ?_
                have t92 := congrArg Int32.toInt (f81)
                have t93 := congrArg Int32.toInt (f82)
                have t94 := congrArg Int32.toInt (f83)
                exact ih h77 x91 (some (.int (ez_I h6 71 17))) (some (.int (ez_I h6 71 18))) (c + 1) F80 (by have := hpp (by omega); omega) (A84) (pmI_s hpm0 A85.1 A86.1 A87.1 A88.1 A85.2 A86.2 A87.2 A88.2 (by rw [hpl]; omega) (by omega) (by rw [hpl, show tB (ez_I h 72) p.toInt.toNat = x46.toInt % 256 from (congrArg (fun v : Int32 => v.toInt % 256) ex46)]; omega) (by omega) rfl) (ltP_s A_lt (by omega) rfl) (by omega)
              · have c89 : ¬ (((ez_I h6 71 17)).toInt ≤ 0) := c89
                exfalso; omega
            · have c32 : ¬ (((ez_I h6 71 17)).toInt ≤ 0) := c32
              exfalso; omega
          · have c18 : ¬ (((ez_I h6 71 17)).toInt ≤ 0) := c18
            exfalso; omega
        · have c17 : ¬ (((ez_I h6 71 17)).toInt ≤ 0) := c17
          refine gw_ld rfl rfl ?_
          refine z_C (m := 1) rfl rfl (fun x95 ex95 => ?_)
          refine z_add (by omega) (fun x96 ex96 => ?_)
          refine gw_ld rfl rfl ?_
          refine z_gI2 (by decide) (zT S10 (by decide) rfl) (zW_f F11 (by decide) (by decide)) ?_
          refine z_b2 (fun c97 => ?_) (fun c97 => ?_)
          · have c97 : ((ez_I h 71 6)).toInt ≤ x96.toInt := c97
            refine gw_skip _ ?_
            obtain ⟨Rw77, b77⟩ : ∃ f, ez_I h6 77 = f := ⟨_, rfl⟩
            obtain ⟨Rw78, b78⟩ : ∃ f, ez_I h6 78 = f := ⟨_, rfl⟩
            obtain ⟨Rw79, b79⟩ : ∃ f, ez_I h6 79 = f := ⟨_, rfl⟩
            obtain ⟨Rw80, b80⟩ : ∃ f, ez_I h6 80 = f := ⟨_, rfl⟩
            have hpm0 : pmI Rw77 Rw78 Rw79 Rw80 (tB (ez_I h 72)) (ez_I h 71 6).toInt.toNat c := by rw [← b77, ← b78, ← b79, ← b80]; exact A16
            obtain ⟨v1, v2⟩ := pt_mod (l := (ez_I h6 71 17).toInt) (w := (ez_I h6 71 18).toInt) (l2 := (ez_I h6 71 17).toInt) hpl (by omega) (by omega) (by omega)
            refine gw_ld rfl rfl ?_
            refine z_gR (q := 77) (zT S10 (by decide) rfl) (zRf S10 (by decide) (by decide) rfl) (by decide) ?_
            refine gw_ld rfl rfl ?_
            refine z_gI2 (by decide) (zT S10 (by decide) rfl) (f12) ?_
            refine gw_ld rfl rfl ?_
            refine z_b1 (fun c98 => ?_) (fun c98 => ?_)
            · have c98 : ((ez_I h6 71 17)).toInt ≤ 0 := c98
              exfalso; omega
            · have c98 : ¬ (((ez_I h6 71 17)).toInt ≤ 0) := c98
              refine gw_ld rfl rfl ?_
              refine z_go ?_
              refine gw_skip _ ?_
              refine z_is (n := 6000) (zT S10 (by decide) rfl) (zN S10 (by decide) rfl) (by omega) (fun h99 e100 => ?_)
              have S101 := zSh_set S10 e100
              have F102 := zW_setA F11 e100 (by omega)
              have f103 : ez_I h99 71 14 = (ez_I h2 71 14) := (zI_ne e100 (by omega)).trans (f12)
              have f104 : ez_I h99 71 17 = (ez_I h6 71 17) := (zI_ne e100 (by omega)).trans (rfl)
              have f105 : ez_I h99 71 18 = (ez_I h6 71 18) := (zI_ne e100 (by omega)).trans (rfl)
              have A106 : chn (tI (ez_I h99 81)) (pK (ez_I h 72)) ((ez_I h 71 6).toInt.toNat - 1) := by rw [zI_fn e100 81 (by decide)]; exact A15
              have A107 : ez_I h99 78 = Rw78 := by rw [zI_fn e100 78 (by decide)]; exact b78
              have A108 : ez_I h99 79 = Rw79 := by rw [zI_fn e100 79 (by decide)]; exact b79
              have A109 : ez_I h99 80 = Rw80 := by rw [zI_fn e100 80 (by decide)]; exact b80
              have A110 : (ez_I h99 77 c = (ez_I h6 71 17) ∧ ∀ k, k ≠ c → ez_I h99 77 k = Rw77 k) := ⟨(by rw [show c = ((ez_I h2 71 14)).toInt.toNat by omega]; exact zI_eq e100), fun k hk => (zI_ne e100 (by omega)).trans (congrFun b77 k)⟩
              clear A15
              refine gw_ld rfl rfl ?_
              refine z_gR (q := 78) (zT S101 (by decide) rfl) (zRf S101 (by decide) (by decide) rfl) (by decide) ?_
              refine gw_ld rfl rfl ?_
              refine z_gI2 (by decide) (zT S101 (by decide) rfl) (f103) ?_
              refine gw_ld rfl rfl ?_
              refine z_b1 (fun c111 => ?_) (fun c111 => ?_)
              · have c111 : ((ez_I h6 71 17)).toInt ≤ 0 := c111
                exfalso; omega
              · have c111 : ¬ (((ez_I h6 71 17)).toInt ≤ 0) := c111
                refine gw_ld rfl rfl ?_
                refine z_go ?_
                refine gw_skip _ ?_
                refine z_is (n := 6000) (zT S101 (by decide) rfl) (zN S101 (by decide) rfl) (by omega) (fun h112 e113 => ?_)
                have S114 := zSh_set S101 e113
                have F115 := zW_setA F102 e113 (by omega)
                have f116 : ez_I h112 71 14 = (ez_I h2 71 14) := (zI_ne e113 (by omega)).trans (f103)
                have f117 : ez_I h112 71 17 = (ez_I h6 71 17) := (zI_ne e113 (by omega)).trans (f104)
                have f118 : ez_I h112 71 18 = (ez_I h6 71 18) := (zI_ne e113 (by omega)).trans (f105)
                have A119 : chn (tI (ez_I h112 81)) (pK (ez_I h 72)) ((ez_I h 71 6).toInt.toNat - 1) := by rw [zI_fn e113 81 (by decide)]; exact A106
                have A120 : ez_I h112 79 = Rw79 := by rw [zI_fn e113 79 (by decide)]; exact A108
                have A121 : ez_I h112 80 = Rw80 := by rw [zI_fn e113 80 (by decide)]; exact A109
                have A122 : (ez_I h112 77 c = (ez_I h6 71 17) ∧ ∀ k, k ≠ c → ez_I h112 77 k = Rw77 k) := by rw [zI_fn e113 77 (by decide)]; exact A110
                have A123 : (ez_I h112 78 c = (ez_I h6 71 18) ∧ ∀ k, k ≠ c → ez_I h112 78 k = Rw78 k) := ⟨(by rw [show c = ((ez_I h2 71 14)).toInt.toNat by omega]; exact zI_eq e113), fun k hk => (zI_ne e113 (by omega)).trans (congrFun A107 k)⟩
                clear A106
                clear A108
                clear A109
                clear A110
                refine gw_ld rfl rfl ?_
                refine z_gR (q := 79) (zT S114 (by decide) rfl) (zRf S114 (by decide) (by decide) rfl) (by decide) ?_
                refine gw_ld rfl rfl ?_
                refine z_gI2 (by decide) (zT S114 (by decide) rfl) (f116) ?_
                refine gw_ld rfl rfl ?_
                refine z_gR (q := 72) (zT S114 (by decide) rfl) (zRf S114 (by decide) (by decide) rfl) (by decide) ?_
                refine gw_ld rfl rfl ?_
                refine z_baV (n := 6000) (zT S114 (by decide) rfl) (zN S114 (by decide) rfl) (by omega) (zW_f F115 (by decide) (by omega)) ?_
                generalize ex124 : ez_I h 72 p.toInt.toNat = x124
                have rx124 := z_rng x124
                have yx124 := hb p.toInt.toNat (by omega)
                rw [ex124] at yx124
                refine z_C (m := 255) rfl rfl (fun x125 ex125 => ?_)
                refine z_and (fun x126 ex126 ux126 wx126 => ?_)
                have rx126 := z_rng x126
                replace ux126 := ux126 (by omega)
                clear wx126
                have vx126 := n_mask (k := 8) (by decide) (by omega) ex126
                rw [show (2 : Int) ^ 8 = 256 from rfl] at vx126
                refine z_is (n := 6000) (zT S114 (by decide) rfl) (zN S114 (by decide) rfl) (by omega) (fun h127 e128 => ?_)
                have S129 := zSh_set S114 e128
                have F130 := zW_setA F115 e128 (by omega)
                have f131 : ez_I h127 71 14 = (ez_I h2 71 14) := (zI_ne e128 (by omega)).trans (f116)
                have f132 : ez_I h127 71 17 = (ez_I h6 71 17) := (zI_ne e128 (by omega)).trans (f117)
                have f133 : ez_I h127 71 18 = (ez_I h6 71 18) := (zI_ne e128 (by omega)).trans (f118)
                have A134 : chn (tI (ez_I h127 81)) (pK (ez_I h 72)) ((ez_I h 71 6).toInt.toNat - 1) := by rw [zI_fn e128 81 (by decide)]; exact A119
                have A135 : ez_I h127 80 = Rw80 := by rw [zI_fn e128 80 (by decide)]; exact A121
                have A136 : (ez_I h127 77 c = (ez_I h6 71 17) ∧ ∀ k, k ≠ c → ez_I h127 77 k = Rw77 k) := by rw [zI_fn e128 77 (by decide)]; exact A122
                have A137 : (ez_I h127 78 c = (ez_I h6 71 18) ∧ ∀ k, k ≠ c → ez_I h127 78 k = Rw78 k) := by rw [zI_fn e128 78 (by decide)]; exact A123
                have A138 : (ez_I h127 79 c = x126 ∧ ∀ k, k ≠ c → ez_I h127 79 k = Rw79 k) := ⟨(by rw [show c = ((ez_I h2 71 14)).toInt.toNat by omega]; exact zI_eq e128), fun k hk => (zI_ne e128 (by omega)).trans (congrFun A120 k)⟩
                clear A119
                clear A121
                clear A122
                clear A123
                refine gw_ld rfl rfl ?_
                refine z_gR (q := 80) (zT S129 (by decide) rfl) (zRf S129 (by decide) (by decide) rfl) (by decide) ?_
                refine gw_ld rfl rfl ?_
                refine z_gI2 (by decide) (zT S129 (by decide) rfl) (f131) ?_
                refine gw_ld rfl rfl ?_
                refine z_gI2 (by decide) (zT S129 (by decide) rfl) (f131) ?_
                refine z_C (m := 600) rfl rfl (fun x139 ex139 => ?_)
                refine z_dvP (c := 600) ex139 (by decide) (by omega) (fun x140 ex140 => ?_)
                refine z_is (n := 6000) (zT S129 (by decide) rfl) (zN S129 (by decide) rfl) (by omega) (fun h141 e142 => ?_)
                have S143 := zSh_set S129 e142
                have F144 := zW_setA F130 e142 (by omega)
                have f145 : ez_I h141 71 14 = (ez_I h2 71 14) := (zI_ne e142 (by omega)).trans (f131)
                have f146 : ez_I h141 71 17 = (ez_I h6 71 17) := (zI_ne e142 (by omega)).trans (f132)
                have f147 : ez_I h141 71 18 = (ez_I h6 71 18) := (zI_ne e142 (by omega)).trans (f133)
                have A148 : chn (tI (ez_I h141 81)) (pK (ez_I h 72)) ((ez_I h 71 6).toInt.toNat - 1) := by rw [zI_fn e142 81 (by decide)]; exact A134
                have A149 : (ez_I h141 77 c = (ez_I h6 71 17) ∧ ∀ k, k ≠ c → ez_I h141 77 k = Rw77 k) := by rw [zI_fn e142 77 (by decide)]; exact A136
                have A150 : (ez_I h141 78 c = (ez_I h6 71 18) ∧ ∀ k, k ≠ c → ez_I h141 78 k = Rw78 k) := by rw [zI_fn e142 78 (by decide)]; exact A137
                have A151 : (ez_I h141 79 c = x126 ∧ ∀ k, k ≠ c → ez_I h141 79 k = Rw79 k) := by rw [zI_fn e142 79 (by decide)]; exact A138
                have A152 : (ez_I h141 80 c = x140 ∧ ∀ k, k ≠ c → ez_I h141 80 k = Rw80 k) := ⟨(by rw [show c = ((ez_I h2 71 14)).toInt.toNat by omega]; exact zI_eq e142), fun k hk => (zI_ne e142 (by omega)).trans (congrFun A135 k)⟩
                clear A134
                clear A136
                clear A137
                clear A138
                refine gw_ld rfl rfl ?_
                refine gw_op rfl ?_
                refine z_gI2 (by decide) (zT S143 (by decide) rfl) (f145) ?_
                refine z_C (m := 1) rfl rfl (fun x153 ex153 => ?_)
                refine z_add (by omega) (fun x154 ex154 => ?_)
                refine z_pI (zT S143 (by decide) rfl) (fun h155 e156 => ?_)
                have S157 := zSh_set S143 e156
                have F158 := zW_setF F144 e156 (by omega)
                have f159 : ez_I h155 71 14 = x154 := zI_eq e156
                have f160 : ez_I h155 71 17 = (ez_I h6 71 17) := (zI_ne e156 (by decide)).trans (f146)
                have f161 : ez_I h155 71 18 = (ez_I h6 71 18) := (zI_ne e156 (by decide)).trans (f147)
                have A162 : chn (tI (ez_I h155 81)) (pK (ez_I h 72)) ((ez_I h 71 6).toInt.toNat - 1) := by rw [zI_fn e156 81 (by decide)]; exact A148
                have A163 : (ez_I h155 77 c = (ez_I h6 71 17) ∧ ∀ k, k ≠ c → ez_I h155 77 k = Rw77 k) := by rw [zI_fn e156 77 (by decide)]; exact A149
                have A164 : (ez_I h155 78 c = (ez_I h6 71 18) ∧ ∀ k, k ≠ c → ez_I h155 78 k = Rw78 k) := by rw [zI_fn e156 78 (by decide)]; exact A150
                have A165 : (ez_I h155 79 c = x126 ∧ ∀ k, k ≠ c → ez_I h155 79 k = Rw79 k) := by rw [zI_fn e156 79 (by decide)]; exact A151
                have A166 : (ez_I h155 80 c = x140 ∧ ∀ k, k ≠ c → ez_I h155 80 k = Rw80 k) := by rw [zI_fn e156 80 (by decide)]; exact A152
                clear A148
                clear A149
                clear A150
                clear A151
                clear A152
                refine gw_ld rfl rfl ?_
                refine gw_ld rfl rfl ?_
                refine z_b1 (fun c167 => ?_) (fun c167 => ?_)
                · have c167 : ((ez_I h6 71 17)).toInt ≤ 0 := c167
                  exfalso; omega
                · have c167 : ¬ (((ez_I h6 71 17)).toInt ≤ 0) := c167
                  refine gw_ld rfl rfl ?_
                  refine z_go ?_
                  refine gw_skip _ ?_
                  refine z_add (by omega) (fun x168 ex168 => ?_)
                  refine gw_st rfl rfl rfl ?_
                  show ez_gw _ _ _ _ _ _ _ _ [some (.ref 71), some (.int x168), some (.int (ez_I h6 71 17)), some (.int (ez_I h6 71 18))] _ _ _
                  refine z_go ?_
                  have t169 := congrArg Int32.toInt (f159)
                  have t170 := congrArg Int32.toInt (f160)
                  have t171 := congrArg Int32.toInt (f161)
                  exact ih h155 x168 (some (.int (ez_I h6 71 17))) (some (.int (ez_I h6 71 18))) (c + 1) F158 (by have := hpp (by omega); omega) (A162) (pmI_s hpm0 A163.1 A164.1 A165.1 A166.1 A163.2 A164.2 A165.2 A166.2 (by rw [hpl]; omega) (by omega) (by rw [hpl, show tB (ez_I h 72) p.toInt.toNat = x124.toInt % 256 from (congrArg (fun v : Int32 => v.toInt % 256) ex124)]; omega) (by omega) rfl) (ltP_s A_lt (by omega) rfl) (by omega)
          · have c97 : ¬ (((ez_I h 71 6)).toInt ≤ x96.toInt) := c97
            refine gw_ld rfl rfl ?_
            refine gw_ld rfl rfl ?_
            refine z_C (m := 1) rfl rfl (fun x172 ex172 => ?_)
            refine z_add (by omega) (fun x173 ex173 => ?_)
            have t174 := congrArg Int32.toInt (f12)
            refine z_cl rfl rfl rfl rfl rfl rfl rfl rfl rfl rfl rfl (zT S10 (by decide) rfl) ?_
            refine d_longest (p := x173) (N := (ez_I h 71 6).toInt.toNat - 1) S10 (by rw [(show ez_I h6 71 6 = ez_I h 71 6 from zW_f F11 (by decide) (by decide))]; omega) (by rw [(show ez_I h6 72 = ez_I h 72 from zW_fn F11 72 (by decide) (fun k c => by omega))]; exact hb) (by rw [(show ez_I h6 72 = ez_I h 72 from zW_fn F11 72 (by decide) (fun k c => by omega))]; exact A15) (by rw [(show ez_I h6 71 6 = ez_I h 71 6 from zW_f F11 (by decide) (by decide))]; omega) (by rw [(show ez_I h6 71 6 = ez_I h 71 6 from zW_f F11 (by decide) (by decide))]; omega) (fun h175 F176 k177 k178 => ?_)
            rw [(show ez_I h6 72 = ez_I h 72 from zW_fn F11 72 (by decide) (fun k c => by omega)), (show ez_I h6 71 6 = ez_I h 71 6 from zW_f F11 (by decide) (by decide)), show x173.toInt.toNat = p.toInt.toNat + 1 by omega] at k177 k178
            have S179 := zW_sh F176 S10
            have F180 := zW_tr F11 (zW_mono F176 (fun q k hk => by first | omega | exact False.elim hk) (fun q hk => by first | omega | exact False.elim hk) (fun q hk => by first | omega | exact False.elim hk))
            have f181 : ez_I h175 71 14 = (ez_I h2 71 14) := (zW_f F176 (fun c => c) (by decide)).trans (f12)
            have r182 := z_rng (ez_I h175 71 17)
            have r183 := z_rng (ez_I h175 71 18)
            have A184 : chn (tI (ez_I h175 81)) (pK (ez_I h 72)) ((ez_I h 71 6).toInt.toNat - 1) := by rw [zW_fn F176 81 (fun c => c) (fun k c => by omega)]; exact A15
            have A185 : pmI (ez_I h175 77) (ez_I h175 78) (ez_I h175 79) (ez_I h175 80) (tB (ez_I h 72)) (ez_I h 71 6).toInt.toNat c := by rw [zW_fn F176 77 (fun c => c) (fun k c => by omega), zW_fn F176 78 (fun c => c) (fun k c => by omega), zW_fn F176 79 (fun c => c) (fun k c => by omega), zW_fn F176 80 (fun c => c) (fun k c => by omega)]; exact A16
            clear A15
            clear A16
            refine gw_ld rfl rfl ?_
            refine z_gI2 (by decide) (zT S179 (by decide) rfl) (rfl) ?_
            refine gw_ld rfl rfl ?_
            refine z_b2 (fun c186 => ?_) (fun c186 => ?_)
            · have c186 : ((ez_I h175 71 17)).toInt ≤ ((ez_I h6 71 17)).toInt := c186
              refine gw_skip _ ?_
              obtain ⟨Rw77, b77⟩ : ∃ f, ez_I h175 77 = f := ⟨_, rfl⟩
              obtain ⟨Rw78, b78⟩ : ∃ f, ez_I h175 78 = f := ⟨_, rfl⟩
              obtain ⟨Rw79, b79⟩ : ∃ f, ez_I h175 79 = f := ⟨_, rfl⟩
              obtain ⟨Rw80, b80⟩ : ∃ f, ez_I h175 80 = f := ⟨_, rfl⟩
              have hpm0 : pmI Rw77 Rw78 Rw79 Rw80 (tB (ez_I h 72)) (ez_I h 71 6).toInt.toNat c := by rw [← b77, ← b78, ← b79, ← b80]; exact A185
              obtain ⟨v1, v2⟩ := pt_mod (l := (ez_I h6 71 17).toInt) (w := (ez_I h6 71 18).toInt) (l2 := (ez_I h6 71 17).toInt) hpl (by omega) (by omega) (by omega)
              refine gw_ld rfl rfl ?_
              refine z_gR (q := 77) (zT S179 (by decide) rfl) (zRf S179 (by decide) (by decide) rfl) (by decide) ?_
              refine gw_ld rfl rfl ?_
              refine z_gI2 (by decide) (zT S179 (by decide) rfl) (f181) ?_
              refine gw_ld rfl rfl ?_
              refine z_b1 (fun c187 => ?_) (fun c187 => ?_)
              · have c187 : ((ez_I h6 71 17)).toInt ≤ 0 := c187
                exfalso; omega
              · have c187 : ¬ (((ez_I h6 71 17)).toInt ≤ 0) := c187
                refine gw_ld rfl rfl ?_
                refine z_go ?_
                refine gw_skip _ ?_
                refine z_is (n := 6000) (zT S179 (by decide) rfl) (zN S179 (by decide) rfl) (by omega) (fun h188 e189 => ?_)
                have S190 := zSh_set S179 e189
                have F191 := zW_setA F180 e189 (by omega)
                have f192 : ez_I h188 71 14 = (ez_I h2 71 14) := (zI_ne e189 (by omega)).trans (f181)
                have f193 : ez_I h188 71 17 = (ez_I h175 71 17) := (zI_ne e189 (by omega)).trans (rfl)
                have f194 : ez_I h188 71 18 = (ez_I h175 71 18) := (zI_ne e189 (by omega)).trans (rfl)
                have A195 : chn (tI (ez_I h188 81)) (pK (ez_I h 72)) ((ez_I h 71 6).toInt.toNat - 1) := by rw [zI_fn e189 81 (by decide)]; exact A184
                have A196 : ez_I h188 78 = Rw78 := by rw [zI_fn e189 78 (by decide)]; exact b78
                have A197 : ez_I h188 79 = Rw79 := by rw [zI_fn e189 79 (by decide)]; exact b79
                have A198 : ez_I h188 80 = Rw80 := by rw [zI_fn e189 80 (by decide)]; exact b80
                have A199 : (ez_I h188 77 c = (ez_I h6 71 17) ∧ ∀ k, k ≠ c → ez_I h188 77 k = Rw77 k) := ⟨(by rw [show c = ((ez_I h2 71 14)).toInt.toNat by omega]; exact zI_eq e189), fun k hk => (zI_ne e189 (by omega)).trans (congrFun b77 k)⟩
                clear A184
                refine gw_ld rfl rfl ?_
                refine z_gR (q := 78) (zT S190 (by decide) rfl) (zRf S190 (by decide) (by decide) rfl) (by decide) ?_
                refine gw_ld rfl rfl ?_
                refine z_gI2 (by decide) (zT S190 (by decide) rfl) (f192) ?_
                refine gw_ld rfl rfl ?_
                refine z_b1 (fun c200 => ?_) (fun c200 => ?_)
                · have c200 : ((ez_I h6 71 17)).toInt ≤ 0 := c200
                  exfalso; omega
                · have c200 : ¬ (((ez_I h6 71 17)).toInt ≤ 0) := c200
                  refine gw_ld rfl rfl ?_
                  refine z_go ?_
                  refine gw_skip _ ?_
                  refine z_is (n := 6000) (zT S190 (by decide) rfl) (zN S190 (by decide) rfl) (by omega) (fun h201 e202 => ?_)
                  have S203 := zSh_set S190 e202
                  have F204 := zW_setA F191 e202 (by omega)
                  have f205 : ez_I h201 71 14 = (ez_I h2 71 14) := (zI_ne e202 (by omega)).trans (f192)
                  have f206 : ez_I h201 71 17 = (ez_I h175 71 17) := (zI_ne e202 (by omega)).trans (f193)
                  have f207 : ez_I h201 71 18 = (ez_I h175 71 18) := (zI_ne e202 (by omega)).trans (f194)
                  have A208 : chn (tI (ez_I h201 81)) (pK (ez_I h 72)) ((ez_I h 71 6).toInt.toNat - 1) := by rw [zI_fn e202 81 (by decide)]; exact A195
                  have A209 : ez_I h201 79 = Rw79 := by rw [zI_fn e202 79 (by decide)]; exact A197
                  have A210 : ez_I h201 80 = Rw80 := by rw [zI_fn e202 80 (by decide)]; exact A198
                  have A211 : (ez_I h201 77 c = (ez_I h6 71 17) ∧ ∀ k, k ≠ c → ez_I h201 77 k = Rw77 k) := by rw [zI_fn e202 77 (by decide)]; exact A199
                  have A212 : (ez_I h201 78 c = (ez_I h6 71 18) ∧ ∀ k, k ≠ c → ez_I h201 78 k = Rw78 k) := ⟨(by rw [show c = ((ez_I h2 71 14)).toInt.toNat by omega]; exact zI_eq e202), fun k hk => (zI_ne e202 (by omega)).trans (congrFun A196 k)⟩
                  clear A195
                  clear A197
                  clear A198
                  clear A199
                  refine gw_ld rfl rfl ?_
                  refine z_gR (q := 79) (zT S203 (by decide) rfl) (zRf S203 (by decide) (by decide) rfl) (by decide) ?_
                  refine gw_ld rfl rfl ?_
                  refine z_gI2 (by decide) (zT S203 (by decide) rfl) (f205) ?_
                  refine gw_ld rfl rfl ?_
                  refine z_gR (q := 72) (zT S203 (by decide) rfl) (zRf S203 (by decide) (by decide) rfl) (by decide) ?_
                  refine gw_ld rfl rfl ?_
                  refine z_baV (n := 6000) (zT S203 (by decide) rfl) (zN S203 (by decide) rfl) (by omega) (zW_f F204 (by decide) (by omega)) ?_
                  generalize ex213 : ez_I h 72 p.toInt.toNat = x213
                  have rx213 := z_rng x213
                  have yx213 := hb p.toInt.toNat (by omega)
                  rw [ex213] at yx213
                  refine z_C (m := 255) rfl rfl (fun x214 ex214 => ?_)
                  refine z_and (fun x215 ex215 ux215 wx215 => ?_)
                  have rx215 := z_rng x215
                  replace ux215 := ux215 (by omega)
                  clear wx215
                  have vx215 := n_mask (k := 8) (by decide) (by omega) ex215
                  rw [show (2 : Int) ^ 8 = 256 from rfl] at vx215
                  refine z_is (n := 6000) (zT S203 (by decide) rfl) (zN S203 (by decide) rfl) (by omega) (fun h216 e217 => ?_)
                  have S218 := zSh_set S203 e217
                  have F219 := zW_setA F204 e217 (by omega)
                  have f220 : ez_I h216 71 14 = (ez_I h2 71 14) := (zI_ne e217 (by omega)).trans (f205)
                  have f221 : ez_I h216 71 17 = (ez_I h175 71 17) := (zI_ne e217 (by omega)).trans (f206)
                  have f222 : ez_I h216 71 18 = (ez_I h175 71 18) := (zI_ne e217 (by omega)).trans (f207)
                  have A223 : chn (tI (ez_I h216 81)) (pK (ez_I h 72)) ((ez_I h 71 6).toInt.toNat - 1) := by rw [zI_fn e217 81 (by decide)]; exact A208
                  have A224 : ez_I h216 80 = Rw80 := by rw [zI_fn e217 80 (by decide)]; exact A210
                  have A225 : (ez_I h216 77 c = (ez_I h6 71 17) ∧ ∀ k, k ≠ c → ez_I h216 77 k = Rw77 k) := by rw [zI_fn e217 77 (by decide)]; exact A211
                  have A226 : (ez_I h216 78 c = (ez_I h6 71 18) ∧ ∀ k, k ≠ c → ez_I h216 78 k = Rw78 k) := by rw [zI_fn e217 78 (by decide)]; exact A212
                  have A227 : (ez_I h216 79 c = x215 ∧ ∀ k, k ≠ c → ez_I h216 79 k = Rw79 k) := ⟨(by rw [show c = ((ez_I h2 71 14)).toInt.toNat by omega]; exact zI_eq e217), fun k hk => (zI_ne e217 (by omega)).trans (congrFun A209 k)⟩
                  clear A208
                  clear A210
                  clear A211
                  clear A212
                  refine gw_ld rfl rfl ?_
                  refine z_gR (q := 80) (zT S218 (by decide) rfl) (zRf S218 (by decide) (by decide) rfl) (by decide) ?_
                  refine gw_ld rfl rfl ?_
                  refine z_gI2 (by decide) (zT S218 (by decide) rfl) (f220) ?_
                  refine gw_ld rfl rfl ?_
                  refine z_gI2 (by decide) (zT S218 (by decide) rfl) (f220) ?_
                  refine z_C (m := 600) rfl rfl (fun x228 ex228 => ?_)
                  refine z_dvP (c := 600) ex228 (by decide) (by omega) (fun x229 ex229 => ?_)
                  refine z_is (n := 6000) (zT S218 (by decide) rfl) (zN S218 (by decide) rfl) (by omega) (fun h230 e231 => ?_)
                  have S232 := zSh_set S218 e231
                  have F233 := zW_setA F219 e231 (by omega)
                  have f234 : ez_I h230 71 14 = (ez_I h2 71 14) := (zI_ne e231 (by omega)).trans (f220)
                  have f235 : ez_I h230 71 17 = (ez_I h175 71 17) := (zI_ne e231 (by omega)).trans (f221)
                  have f236 : ez_I h230 71 18 = (ez_I h175 71 18) := (zI_ne e231 (by omega)).trans (f222)
                  have A237 : chn (tI (ez_I h230 81)) (pK (ez_I h 72)) ((ez_I h 71 6).toInt.toNat - 1) := by rw [zI_fn e231 81 (by decide)]; exact A223
                  have A238 : (ez_I h230 77 c = (ez_I h6 71 17) ∧ ∀ k, k ≠ c → ez_I h230 77 k = Rw77 k) := by rw [zI_fn e231 77 (by decide)]; exact A225
                  have A239 : (ez_I h230 78 c = (ez_I h6 71 18) ∧ ∀ k, k ≠ c → ez_I h230 78 k = Rw78 k) := by rw [zI_fn e231 78 (by decide)]; exact A226
                  have A240 : (ez_I h230 79 c = x215 ∧ ∀ k, k ≠ c → ez_I h230 79 k = Rw79 k) := by rw [zI_fn e231 79 (by decide)]; exact A227
                  have A241 : (ez_I h230 80 c = x229 ∧ ∀ k, k ≠ c → ez_I h230 80 k = Rw80 k) := ⟨(by rw [show c = ((ez_I h2 71 14)).toInt.toNat by omega]; exact zI_eq e231), fun k hk => (zI_ne e231 (by omega)).trans (congrFun A224 k)⟩
                  clear A223
                  clear A225
                  clear A226
                  clear A227
                  refine gw_ld rfl rfl ?_
                  refine gw_op rfl ?_
                  refine z_gI2 (by decide) (zT S232 (by decide) rfl) (f234) ?_
                  refine z_C (m := 1) rfl rfl (fun x242 ex242 => ?_)
                  refine z_add (by omega) (fun x243 ex243 => ?_)
                  refine z_pI (zT S232 (by decide) rfl) (fun h244 e245 => ?_)
                  have S246 := zSh_set S232 e245
                  have F247 := zW_setF F233 e245 (by omega)
                  have f248 : ez_I h244 71 14 = x243 := zI_eq e245
                  have f249 : ez_I h244 71 17 = (ez_I h175 71 17) := (zI_ne e245 (by decide)).trans (f235)
                  have f250 : ez_I h244 71 18 = (ez_I h175 71 18) := (zI_ne e245 (by decide)).trans (f236)
                  have A251 : chn (tI (ez_I h244 81)) (pK (ez_I h 72)) ((ez_I h 71 6).toInt.toNat - 1) := by rw [zI_fn e245 81 (by decide)]; exact A237
                  have A252 : (ez_I h244 77 c = (ez_I h6 71 17) ∧ ∀ k, k ≠ c → ez_I h244 77 k = Rw77 k) := by rw [zI_fn e245 77 (by decide)]; exact A238
                  have A253 : (ez_I h244 78 c = (ez_I h6 71 18) ∧ ∀ k, k ≠ c → ez_I h244 78 k = Rw78 k) := by rw [zI_fn e245 78 (by decide)]; exact A239
                  have A254 : (ez_I h244 79 c = x215 ∧ ∀ k, k ≠ c → ez_I h244 79 k = Rw79 k) := by rw [zI_fn e245 79 (by decide)]; exact A240
                  have A255 : (ez_I h244 80 c = x229 ∧ ∀ k, k ≠ c → ez_I h244 80 k = Rw80 k) := by rw [zI_fn e245 80 (by decide)]; exact A241
                  clear A237
                  clear A238
                  clear A239
                  clear A240
                  clear A241
                  refine gw_ld rfl rfl ?_
                  refine gw_ld rfl rfl ?_
                  refine z_b1 (fun c256 => ?_) (fun c256 => ?_)
                  · have c256 : ((ez_I h6 71 17)).toInt ≤ 0 := c256
                    exfalso; omega
                  · have c256 : ¬ (((ez_I h6 71 17)).toInt ≤ 0) := c256
                    refine gw_ld rfl rfl ?_
                    refine z_go ?_
                    refine gw_skip _ ?_
                    refine z_add (by omega) (fun x257 ex257 => ?_)
                    refine gw_st rfl rfl rfl ?_
                    show ez_gw _ _ _ _ _ _ _ _ [some (.ref 71), some (.int x257), some (.int (ez_I h6 71 17)), some (.int (ez_I h6 71 18))] _ _ _
                    refine z_go ?_
                    have t258 := congrArg Int32.toInt (f248)
                    have t259 := congrArg Int32.toInt (f249)
                    have t260 := congrArg Int32.toInt (f250)
                    exact ih h244 x257 (some (.int (ez_I h6 71 17))) (some (.int (ez_I h6 71 18))) (c + 1) F247 (by have := hpp (by omega); omega) (A251) (pmI_s hpm0 A252.1 A253.1 A254.1 A255.1 A252.2 A253.2 A254.2 A255.2 (by rw [hpl]; omega) (by omega) (by rw [hpl, show tB (ez_I h 72) p.toInt.toNat = x213.toInt % 256 from (congrArg (fun v : Int32 => v.toInt % 256) ex213)]; omega) (by omega) rfl) (ltP_s A_lt (by omega) rfl) (by omega)
            · have c186 : ¬ (((ez_I h175 71 17)).toInt ≤ ((ez_I h6 71 17)).toInt) := c186
              refine z_C (m := 0) rfl rfl (fun x261 ex261 => ?_)
              refine gw_st rfl rfl rfl ?_
              show ez_gw _ _ _ _ _ _ _ _ [some (.ref 71), some (.int p), some (.int x261), some (.int (ez_I h6 71 18))] _ _ _
              obtain ⟨Rw77, b77⟩ : ∃ f, ez_I h175 77 = f := ⟨_, rfl⟩
              obtain ⟨Rw78, b78⟩ : ∃ f, ez_I h175 78 = f := ⟨_, rfl⟩
              obtain ⟨Rw79, b79⟩ : ∃ f, ez_I h175 79 = f := ⟨_, rfl⟩
              obtain ⟨Rw80, b80⟩ : ∃ f, ez_I h175 80 = f := ⟨_, rfl⟩
              have hpm0 : pmI Rw77 Rw78 Rw79 Rw80 (tB (ez_I h 72)) (ez_I h 71 6).toInt.toNat c := by rw [← b77, ← b78, ← b79, ← b80]; exact A185
              obtain ⟨v1, v2⟩ := pt_mod (l := (ez_I h6 71 17).toInt) (w := (ez_I h6 71 18).toInt) (l2 := x261.toInt) hpl (by omega) (by omega) (by omega)
              refine gw_ld rfl rfl ?_
              refine z_gR (q := 77) (zT S179 (by decide) rfl) (zRf S179 (by decide) (by decide) rfl) (by decide) ?_
              refine gw_ld rfl rfl ?_
              refine z_gI2 (by decide) (zT S179 (by decide) rfl) (f181) ?_
              refine gw_ld rfl rfl ?_
              refine z_b1 (fun c262 => ?_) (fun c262 => ?_)
              · have c262 : x261.toInt ≤ 0 := c262
                refine gw_skip _ ?_
                refine z_C (m := 1) rfl rfl (fun x263 ex263 => ?_)
                refine z_is (n := 6000) (zT S179 (by decide) rfl) (zN S179 (by decide) rfl) (by omega) (fun h264 e265 => ?_)
                have S266 := zSh_set S179 e265
                have F267 := zW_setA F180 e265 (by omega)
                have f268 : ez_I h264 71 14 = (ez_I h2 71 14) := (zI_ne e265 (by omega)).trans (f181)
                have f269 : ez_I h264 71 17 = (ez_I h175 71 17) := (zI_ne e265 (by omega)).trans (rfl)
                have f270 : ez_I h264 71 18 = (ez_I h175 71 18) := (zI_ne e265 (by omega)).trans (rfl)
                have A271 : chn (tI (ez_I h264 81)) (pK (ez_I h 72)) ((ez_I h 71 6).toInt.toNat - 1) := by rw [zI_fn e265 81 (by decide)]; exact A184
                have A272 : ez_I h264 78 = Rw78 := by rw [zI_fn e265 78 (by decide)]; exact b78
                have A273 : ez_I h264 79 = Rw79 := by rw [zI_fn e265 79 (by decide)]; exact b79
                have A274 : ez_I h264 80 = Rw80 := by rw [zI_fn e265 80 (by decide)]; exact b80
                have A275 : (ez_I h264 77 c = x263 ∧ ∀ k, k ≠ c → ez_I h264 77 k = Rw77 k) := ⟨(by rw [show c = ((ez_I h2 71 14)).toInt.toNat by omega]; exact zI_eq e265), fun k hk => (zI_ne e265 (by omega)).trans (congrFun b77 k)⟩
                clear A184
                refine gw_ld rfl rfl ?_
                refine z_gR (q := 78) (zT S266 (by decide) rfl) (zRf S266 (by decide) (by decide) rfl) (by decide) ?_
                refine gw_ld rfl rfl ?_
                refine z_gI2 (by decide) (zT S266 (by decide) rfl) (f268) ?_
                refine gw_ld rfl rfl ?_
                refine z_b1 (fun c276 => ?_) (fun c276 => ?_)
                · have c276 : x261.toInt ≤ 0 := c276
                  refine gw_skip _ ?_
                  refine z_C (m := 0) rfl rfl (fun x277 ex277 => ?_)
                  refine z_is (n := 6000) (zT S266 (by decide) rfl) (zN S266 (by decide) rfl) (by omega) (fun h278 e279 => ?_)
                  have S280 := zSh_set S266 e279
                  have F281 := zW_setA F267 e279 (by omega)
                  have f282 : ez_I h278 71 14 = (ez_I h2 71 14) := (zI_ne e279 (by omega)).trans (f268)
                  have f283 : ez_I h278 71 17 = (ez_I h175 71 17) := (zI_ne e279 (by omega)).trans (f269)
                  have f284 : ez_I h278 71 18 = (ez_I h175 71 18) := (zI_ne e279 (by omega)).trans (f270)
                  have A285 : chn (tI (ez_I h278 81)) (pK (ez_I h 72)) ((ez_I h 71 6).toInt.toNat - 1) := by rw [zI_fn e279 81 (by decide)]; exact A271
                  have A286 : ez_I h278 79 = Rw79 := by rw [zI_fn e279 79 (by decide)]; exact A273
                  have A287 : ez_I h278 80 = Rw80 := by rw [zI_fn e279 80 (by decide)]; exact A274
                  have A288 : (ez_I h278 77 c = x263 ∧ ∀ k, k ≠ c → ez_I h278 77 k = Rw77 k) := by rw [zI_fn e279 77 (by decide)]; exact A275
                  have A289 : (ez_I h278 78 c = x277 ∧ ∀ k, k ≠ c → ez_I h278 78 k = Rw78 k) := ⟨(by rw [show c = ((ez_I h2 71 14)).toInt.toNat by omega]; exact zI_eq e279), fun k hk => (zI_ne e279 (by omega)).trans (congrFun A272 k)⟩
                  clear A271
                  clear A273
                  clear A274
                  clear A275
                  refine gw_ld rfl rfl ?_
                  refine z_gR (q := 79) (zT S280 (by decide) rfl) (zRf S280 (by decide) (by decide) rfl) (by decide) ?_
                  refine gw_ld rfl rfl ?_
                  refine z_gI2 (by decide) (zT S280 (by decide) rfl) (f282) ?_
                  refine gw_ld rfl rfl ?_
                  refine z_gR (q := 72) (zT S280 (by decide) rfl) (zRf S280 (by decide) (by decide) rfl) (by decide) ?_
                  refine gw_ld rfl rfl ?_
                  refine z_baV (n := 6000) (zT S280 (by decide) rfl) (zN S280 (by decide) rfl) (by omega) (zW_f F281 (by decide) (by omega)) ?_
                  generalize ex290 : ez_I h 72 p.toInt.toNat = x290
                  have rx290 := z_rng x290
                  have yx290 := hb p.toInt.toNat (by omega)
                  rw [ex290] at yx290
                  refine z_C (m := 255) rfl rfl (fun x291 ex291 => ?_)
                  refine z_and (fun x292 ex292 ux292 wx292 => ?_)
                  have rx292 := z_rng x292
                  replace ux292 := ux292 (by omega)
                  clear wx292
                  have vx292 := n_mask (k := 8) (by decide) (by omega) ex292
                  rw [show (2 : Int) ^ 8 = 256 from rfl] at vx292
                  refine z_is (n := 6000) (zT S280 (by decide) rfl) (zN S280 (by decide) rfl) (by omega) (fun h293 e294 => ?_)
                  have S295 := zSh_set S280 e294
                  have F296 := zW_setA F281 e294 (by omega)
                  have f297 : ez_I h293 71 14 = (ez_I h2 71 14) := (zI_ne e294 (by omega)).trans (f282)
                  have f298 : ez_I h293 71 17 = (ez_I h175 71 17) := (zI_ne e294 (by omega)).trans (f283)
                  have f299 : ez_I h293 71 18 = (ez_I h175 71 18) := (zI_ne e294 (by omega)).trans (f284)
                  have A300 : chn (tI (ez_I h293 81)) (pK (ez_I h 72)) ((ez_I h 71 6).toInt.toNat - 1) := by rw [zI_fn e294 81 (by decide)]; exact A285
                  have A301 : ez_I h293 80 = Rw80 := by rw [zI_fn e294 80 (by decide)]; exact A287
                  have A302 : (ez_I h293 77 c = x263 ∧ ∀ k, k ≠ c → ez_I h293 77 k = Rw77 k) := by rw [zI_fn e294 77 (by decide)]; exact A288
                  have A303 : (ez_I h293 78 c = x277 ∧ ∀ k, k ≠ c → ez_I h293 78 k = Rw78 k) := by rw [zI_fn e294 78 (by decide)]; exact A289
                  have A304 : (ez_I h293 79 c = x292 ∧ ∀ k, k ≠ c → ez_I h293 79 k = Rw79 k) := ⟨(by rw [show c = ((ez_I h2 71 14)).toInt.toNat by omega]; exact zI_eq e294), fun k hk => (zI_ne e294 (by omega)).trans (congrFun A286 k)⟩
                  clear A285
                  clear A287
                  clear A288
                  clear A289
                  refine gw_ld rfl rfl ?_
                  refine z_gR (q := 80) (zT S295 (by decide) rfl) (zRf S295 (by decide) (by decide) rfl) (by decide) ?_
                  refine gw_ld rfl rfl ?_
                  refine z_gI2 (by decide) (zT S295 (by decide) rfl) (f297) ?_
                  refine gw_ld rfl rfl ?_
                  refine z_gI2 (by decide) (zT S295 (by decide) rfl) (f297) ?_
                  refine z_C (m := 600) rfl rfl (fun x305 ex305 => ?_)
                  refine z_dvP (c := 600) ex305 (by decide) (by omega) (fun x306 ex306 => ?_)
                  refine z_is (n := 6000) (zT S295 (by decide) rfl) (zN S295 (by decide) rfl) (by omega) (fun h307 e308 => ?_)
                  have S309 := zSh_set S295 e308
                  have F310 := zW_setA F296 e308 (by omega)
                  have f311 : ez_I h307 71 14 = (ez_I h2 71 14) := (zI_ne e308 (by omega)).trans (f297)
                  have f312 : ez_I h307 71 17 = (ez_I h175 71 17) := (zI_ne e308 (by omega)).trans (f298)
                  have f313 : ez_I h307 71 18 = (ez_I h175 71 18) := (zI_ne e308 (by omega)).trans (f299)
                  have A314 : chn (tI (ez_I h307 81)) (pK (ez_I h 72)) ((ez_I h 71 6).toInt.toNat - 1) := by rw [zI_fn e308 81 (by decide)]; exact A300
                  have A315 : (ez_I h307 77 c = x263 ∧ ∀ k, k ≠ c → ez_I h307 77 k = Rw77 k) := by rw [zI_fn e308 77 (by decide)]; exact A302
                  have A316 : (ez_I h307 78 c = x277 ∧ ∀ k, k ≠ c → ez_I h307 78 k = Rw78 k) := by rw [zI_fn e308 78 (by decide)]; exact A303
                  have A317 : (ez_I h307 79 c = x292 ∧ ∀ k, k ≠ c → ez_I h307 79 k = Rw79 k) := by rw [zI_fn e308 79 (by decide)]; exact A304
                  have A318 : (ez_I h307 80 c = x306 ∧ ∀ k, k ≠ c → ez_I h307 80 k = Rw80 k) := ⟨(by rw [show c = ((ez_I h2 71 14)).toInt.toNat by omega]; exact zI_eq e308), fun k hk => (zI_ne e308 (by omega)).trans (congrFun A301 k)⟩
                  clear A300
                  clear A302
                  clear A303
                  clear A304
                  refine gw_ld rfl rfl ?_
                  refine gw_op rfl ?_
                  refine z_gI2 (by decide) (zT S309 (by decide) rfl) (f311) ?_
                  refine z_C (m := 1) rfl rfl (fun x319 ex319 => ?_)
                  refine z_add (by omega) (fun x320 ex320 => ?_)
                  refine z_pI (zT S309 (by decide) rfl) (fun h321 e322 => ?_)
                  have S323 := zSh_set S309 e322
                  have F324 := zW_setF F310 e322 (by omega)
                  have f325 : ez_I h321 71 14 = x320 := zI_eq e322
                  have f326 : ez_I h321 71 17 = (ez_I h175 71 17) := (zI_ne e322 (by decide)).trans (f312)
                  have f327 : ez_I h321 71 18 = (ez_I h175 71 18) := (zI_ne e322 (by decide)).trans (f313)
                  have A328 : chn (tI (ez_I h321 81)) (pK (ez_I h 72)) ((ez_I h 71 6).toInt.toNat - 1) := by rw [zI_fn e322 81 (by decide)]; exact A314
                  have A329 : (ez_I h321 77 c = x263 ∧ ∀ k, k ≠ c → ez_I h321 77 k = Rw77 k) := by rw [zI_fn e322 77 (by decide)]; exact A315
                  have A330 : (ez_I h321 78 c = x277 ∧ ∀ k, k ≠ c → ez_I h321 78 k = Rw78 k) := by rw [zI_fn e322 78 (by decide)]; exact A316
                  have A331 : (ez_I h321 79 c = x292 ∧ ∀ k, k ≠ c → ez_I h321 79 k = Rw79 k) := by rw [zI_fn e322 79 (by decide)]; exact A317
                  have A332 : (ez_I h321 80 c = x306 ∧ ∀ k, k ≠ c → ez_I h321 80 k = Rw80 k) := by rw [zI_fn e322 80 (by decide)]; exact A318
                  clear A314
                  clear A315
                  clear A316
                  clear A317
                  clear A318
                  refine gw_ld rfl rfl ?_
                  refine gw_ld rfl rfl ?_
                  refine z_b1 (fun c333 => ?_) (fun c333 => ?_)
                  · have c333 : x261.toInt ≤ 0 := c333
                    refine gw_skip _ ?_
                    refine z_C (m := 1) rfl rfl (fun x334 ex334 => ?_)
                    refine z_add (by omega) (fun x335 ex335 => ?_)
                    refine gw_st rfl rfl rfl ?_
                    show ez_gw _ _ _ _ _ _ _ _ [some (.ref 71), some (.int x335), some (.int x261), some (.int (ez_I h6 71 18))] _ _ _
                    refine z_go ?_
                    have t336 := congrArg Int32.toInt (f325)
                    have t337 := congrArg Int32.toInt (f326)
                    have t338 := congrArg Int32.toInt (f327)
                    exact ih h321 x335 (some (.int x261)) (some (.int (ez_I h6 71 18))) (c + 1) F324 (by have := hpp (by omega); omega) (A328) (pmI_s hpm0 A329.1 A330.1 A331.1 A332.1 A329.2 A330.2 A331.2 A332.2 (by rw [hpl]; omega) (by omega) (by rw [hpl, show tB (ez_I h 72) p.toInt.toNat = x290.toInt % 256 from (congrArg (fun v : Int32 => v.toInt % 256) ex290)]; omega) (by omega) rfl) (ltP_s A_lt (by omega) rfl) (by omega)
                  · have c333 : ¬ (x261.toInt ≤ 0) := c333
                    exfalso; omega
                · have c276 : ¬ (x261.toInt ≤ 0) := c276
                  exfalso; omega
              · have c262 : ¬ (x261.toInt ≤ 0) := c262
                exfalso; omega
set_option maxRecDepth 4000 in
set_option maxHeartbeats 20000000 in
theorem d_findParts_L1 {E : Nat → Nat × (Nat → Int32)} {d : Nat} {Q : ez_Q} {h : ez_H}  (S : zSh h) (M6 : 0 ≤ (ez_I h 71 6).toInt ∧ (ez_I h 71 6).toInt ≤ 6000) (hb : aR (ez_I h 72) 6000 (-128) 127) (K : ∀ h2, zW (fun q k => q = 71 ∧ k = 14 ∨ q = 71 ∧ k = 17 ∨ q = 71 ∧ k = 18) (fun q => 77 ≤ q ∧ q ≤ 82) (fun _ => False) h h2 → ∀ c : Nat, (ez_I h2 71 14).toInt = c → ptP (tB (ez_I h 72)) (ez_I h 71 6).toInt.toNat c = (ez_I h 71 6).toInt.toNat → ltP (tB (ez_I h 72)) (ez_I h 71 6).toInt.toNat c → pmI (ez_I h2 77) (ez_I h2 78) (ez_I h2 79) (ez_I h2 80) (tB (ez_I h 72)) (ez_I h 71 6).toInt.toNat c → Q (.inl none) h2) : ∀ N : Nat, (∀ (h2 : ez_H) (p : Int32) (l2 : Option Value) (l3 : Option Value) , zW (fun q k => q = 71 ∧ k = 14 ∨ q = 71 ∧ k = 17 ∨ q = 71 ∧ k = 18) (fun q => 77 ≤ q ∧ q ≤ 82) (fun _ => False) h h2 → (0 ≤ p.toInt ∧ (p.toInt = 0 ∨ p.toInt < (ez_I h 71 6).toInt)) → laI (ez_I h2 82) (pK (ez_I h 72)) 65536 p.toInt.toNat → chn (tI (ez_I h2 81)) (pK (ez_I h 72)) p.toInt.toNat → (10000 - p.toInt) < (N : Int) → pw E (d + 1) 32 23 [some (.ref 71), some (.int p), l2, l3] [] h2 Q) := by
  intro N
  induction N with
  | zero => exact fun h2 p l2 l3  F hinv A_la A_ch hm => absurd hm (by have w_p := z_rng p; omega)
  | succ N ih =>
    refine fun h2 p l2 l3  F hinv A_la A_ch hm => ?_
    · skip
      have w_p := z_rng p
      have S2 := zW_sh F S
      apply ez_Wp_in
      show ez_gw _ _ _ _ _ _ (cz_32) _ _ _ _ _
      refine gw_skip _ ?_
      have r1 := z_rng (ez_I h2 71 14)
      have r2 := z_rng (ez_I h2 71 17)
      have r3 := z_rng (ez_I h2 71 18)
      refine gw_ld rfl rfl ?_
      refine z_C (m := 1) rfl rfl (fun x4 ex4 => ?_)
      refine z_add (by omega) (fun x5 ex5 => ?_)
      refine gw_ld rfl rfl ?_
      have r6 := z_rng (ez_I h 71 6)
      refine z_gI2 (by decide) (zT S2 (by decide) rfl) (zW_f F (by decide) (by decide)) ?_
      refine z_b2 (fun c7 => ?_) (fun c7 => ?_)
      · have c7 : ((ez_I h 71 6)).toInt ≤ x5.toInt := c7
        refine gw_skip _ ?_
        refine gw_ld rfl rfl ?_
        refine z_gI2 (by decide) (zT S2 (by decide) rfl) (zW_f F (by decide) (by decide)) ?_
        refine z_b1 (fun c8 => ?_) (fun c8 => ?_)
        · have c8 : ((ez_I h 71 6)).toInt ≤ 0 := c8
          refine gw_skip _ ?_
          refine gw_ld rfl rfl ?_
          refine z_C (m := 0) rfl rfl (fun x9 ex9 => ?_)
          refine z_pI (zT S2 (by decide) rfl) (fun h10 e11 => ?_)
          have S12 := zSh_set S2 e11
          have F13 := zW_setF F e11 (by omega)
          have f14 : ez_I h10 71 14 = x9 := zI_eq e11
          have f15 : ez_I h10 71 17 = (ez_I h2 71 17) := (zI_ne e11 (by decide)).trans (rfl)
          have f16 : ez_I h10 71 18 = (ez_I h2 71 18) := (zI_ne e11 (by decide)).trans (rfl)
          have A17 : laI (ez_I h10 82) (pK (ez_I h 72)) 65536 p.toInt.toNat := by rw [zI_fn e11 82 (by decide)]; exact A_la
          have A18 : chn (tI (ez_I h10 81)) (pK (ez_I h 72)) p.toInt.toNat := by rw [zI_fn e11 81 (by decide)]; exact A_ch
          refine z_C (m := 0) rfl rfl (fun x19 ex19 => ?_)
          refine gw_st rfl rfl rfl ?_
          show ez_gw _ _ _ _ _ _ _ _ [some (.ref 71), some (.int x19), l2, l3] _ _ _
          have t20 := congrArg Int32.toInt (f14)
          have t21 := congrArg Int32.toInt (f15)
          have t22 := congrArg Int32.toInt (f16)
          exact ez_Wp_at ((d_findParts_L2  S M6 hb K (((10000 - x19.toInt)).toNat + 1)) h10 x19 (l2) (l3) 0 F13 (⟨by omega, by omega, by omega, by show x19.toInt = ((0 : Nat) : Int); omega⟩) (chn_le A18 (by omega)) (pmI_0 _ _ _ _ _ _) (ltP_0 _ _) (by omega)) rfl
        · have c8 : ¬ (((ez_I h 71 6)).toInt ≤ 0) := c8
          refine gw_ld rfl rfl ?_
          refine z_gR (q := 81) (zT S2 (by decide) rfl) (zRf S2 (by decide) (by decide) rfl) (by decide) ?_
          refine gw_ld rfl rfl ?_
          refine z_gI2 (by decide) (zT S2 (by decide) rfl) (zW_f F (by decide) (by decide)) ?_
          refine z_C (m := 1) rfl rfl (fun x23 ex23 => ?_)
          refine z_sub (by omega) (fun x24 ex24 => ?_)
          refine z_C (m := -1) rfl rfl (fun x25 ex25 => ?_)
          refine z_is (n := 6000) (zT S2 (by decide) rfl) (zN S2 (by decide) rfl) (by omega) (fun h26 e27 => ?_)
          have S28 := zSh_set S2 e27
          have F29 := zW_setA F e27 (by omega)
          have f30 : ez_I h26 71 14 = (ez_I h2 71 14) := (zI_ne e27 (by omega)).trans (rfl)
          have f31 : ez_I h26 71 17 = (ez_I h2 71 17) := (zI_ne e27 (by omega)).trans (rfl)
          have f32 : ez_I h26 71 18 = (ez_I h2 71 18) := (zI_ne e27 (by omega)).trans (rfl)
          have A33 : laI (ez_I h26 82) (pK (ez_I h 72)) 65536 p.toInt.toNat := by rw [zI_fn e27 82 (by decide)]; exact A_la
          have A34 : chn (tI (ez_I h26 81)) (pK (ez_I h 72)) ((ez_I h 71 6).toInt.toNat - 1) := chn_top (chn_le A_ch (by omega)) e27 (by omega)
          refine gw_ld rfl rfl ?_
          refine z_C (m := 0) rfl rfl (fun x35 ex35 => ?_)
          refine z_pI (zT S28 (by decide) rfl) (fun h36 e37 => ?_)
          have S38 := zSh_set S28 e37
          have F39 := zW_setF F29 e37 (by omega)
          have f40 : ez_I h36 71 14 = x35 := zI_eq e37
          have f41 : ez_I h36 71 17 = (ez_I h2 71 17) := (zI_ne e37 (by decide)).trans (f31)
          have f42 : ez_I h36 71 18 = (ez_I h2 71 18) := (zI_ne e37 (by decide)).trans (f32)
          have A43 : laI (ez_I h36 82) (pK (ez_I h 72)) 65536 p.toInt.toNat := by rw [zI_fn e37 82 (by decide)]; exact A33
          have A44 : chn (tI (ez_I h36 81)) (pK (ez_I h 72)) ((ez_I h 71 6).toInt.toNat - 1) := by rw [zI_fn e37 81 (by decide)]; exact A34
          clear A33
          clear A34
          refine z_C (m := 0) rfl rfl (fun x45 ex45 => ?_)
          refine gw_st rfl rfl rfl ?_
          show ez_gw _ _ _ _ _ _ _ _ [some (.ref 71), some (.int x45), l2, l3] _ _ _
          have t46 := congrArg Int32.toInt (f40)
          have t47 := congrArg Int32.toInt (f41)
          have t48 := congrArg Int32.toInt (f42)
          exact ez_Wp_at ((d_findParts_L2  S M6 hb K (((10000 - x45.toInt)).toNat + 1)) h36 x45 (l2) (l3) 0 F39 (⟨by omega, by omega, by omega, by show x45.toInt = ((0 : Nat) : Int); omega⟩) (chn_le A44 (by omega)) (pmI_0 _ _ _ _ _ _) (ltP_0 _ _) (by omega)) rfl
      · have c7 : ¬ (((ez_I h 71 6)).toInt ≤ x5.toInt) := c7
        refine gw_ld rfl rfl ?_
        refine z_gR (q := 72) (zT S2 (by decide) rfl) (zRf S2 (by decide) (by decide) rfl) (by decide) ?_
        refine gw_ld rfl rfl ?_
        refine z_baV (n := 6000) (zT S2 (by decide) rfl) (zN S2 (by decide) rfl) (by omega) (zW_f F (by decide) (by omega)) ?_
        generalize ex49 : ez_I h 72 p.toInt.toNat = x49
        have rx49 := z_rng x49
        have yx49 := hb p.toInt.toNat (by omega)
        rw [ex49] at yx49
        refine z_C (m := 255) rfl rfl (fun x50 ex50 => ?_)
        refine z_and (fun x51 ex51 ux51 wx51 => ?_)
        have rx51 := z_rng x51
        replace ux51 := ux51 (by omega)
        clear wx51
        have vx51 := n_mask (k := 8) (by decide) (by omega) ex51
        rw [show (2 : Int) ^ 8 = 256 from rfl] at vx51
        refine z_C (m := 8) rfl rfl (fun x52 ex52 => ?_)
        refine z_2 rfl (fun x53 ex53 => ?_)
        have rx53 := z_rng x53
        have eS := ex53
        refine gw_ld rfl rfl ?_
        refine z_gR (q := 72) (zT S2 (by decide) rfl) (zRf S2 (by decide) (by decide) rfl) (by decide) ?_
        refine gw_ld rfl rfl ?_
        refine z_C (m := 1) rfl rfl (fun x54 ex54 => ?_)
        refine z_add (by omega) (fun x55 ex55 => ?_)
        refine z_baV (n := 6000) (zT S2 (by decide) rfl) (zN S2 (by decide) rfl) (by omega) (zW_f F (by decide) (by omega)) ?_
        generalize ex56 : ez_I h 72 x55.toInt.toNat = x56
        have rx56 := z_rng x56
        have yx56 := hb x55.toInt.toNat (by omega)
        rw [ex56] at yx56
        refine z_C (m := 255) rfl rfl (fun x57 ex57 => ?_)
        refine z_and (fun x58 ex58 ux58 wx58 => ?_)
        have rx58 := z_rng x58
        replace ux58 := ux58 (by omega)
        clear wx58
        have vx58 := n_mask (k := 8) (by decide) (by omega) ex58
        rw [show (2 : Int) ^ 8 = 256 from rfl] at vx58
        refine z_2 rfl (fun x59 ex59 => ?_)
        have rx59 := z_rng x59
        obtain ⟨hpk, hp0, hp1⟩ := pK_is (f := ez_I h 72) (i := p) (by omega) (by omega) ex49 ex56 ex52 vx51 vx58 eS ex59
        refine gw_st rfl rfl rfl ?_
        show ez_gw _ _ _ _ _ _ _ _ [some (.ref 71), some (.int p), some (.int x59), l3] _ _ _
        refine gw_ld rfl rfl ?_
        refine z_gR (q := 81) (zT S2 (by decide) rfl) (zRf S2 (by decide) (by decide) rfl) (by decide) ?_
        refine gw_ld rfl rfl ?_
        refine gw_ld rfl rfl ?_
        refine z_gR (q := 82) (zT S2 (by decide) rfl) (zRf S2 (by decide) (by decide) rfl) (by decide) ?_
        refine gw_ld rfl rfl ?_
        refine z_ia (n := 65536) (zT S2 (by decide) rfl) (zN S2 (by decide) rfl) (by omega) ?_
        generalize ex60 : ez_I h2 82 x59.toInt.toNat = x60
        have rx60 := z_rng x60
        have yx60 := A_la x59.toInt.toNat (by omega)
        rw [ex60] at yx60
        obtain ⟨y1x60, y2x60, _⟩ := yx60
        refine z_is (n := 6000) (zT S2 (by decide) rfl) (zN S2 (by decide) rfl) (by omega) (fun h61 e62 => ?_)
        have S63 := zSh_set S2 e62
        have F64 := zW_setA F e62 (by omega)
        have f65 : ez_I h61 71 14 = (ez_I h2 71 14) := (zI_ne e62 (by omega)).trans (rfl)
        have f66 : ez_I h61 71 17 = (ez_I h2 71 17) := (zI_ne e62 (by omega)).trans (rfl)
        have f67 : ez_I h61 71 18 = (ez_I h2 71 18) := (zI_ne e62 (by omega)).trans (rfl)
        have A68 : laI (ez_I h61 82) (pK (ez_I h 72)) 65536 p.toInt.toNat := by rw [zI_fn e62 82 (by decide)]; exact A_la
        have A69 : chn (tI (ez_I h61 81)) (pK (ez_I h 72)) (p.toInt.toNat + 1) := chn_s (g := 82) (M := 65536) A_ch A_la ex60 (by rw [← hpk]; omega) (by omega) e62 rfl
        refine gw_ld rfl rfl ?_
        refine z_gR (q := 82) (zT S63 (by decide) rfl) (zRf S63 (by decide) (by decide) rfl) (by decide) ?_
        refine gw_ld rfl rfl ?_
        refine gw_ld rfl rfl ?_
        refine z_is (n := 65536) (zT S63 (by decide) rfl) (zN S63 (by decide) rfl) (by omega) (fun h70 e71 => ?_)
        have S72 := zSh_set S63 e71
        have F73 := zW_setA F64 e71 (by omega)
        have f74 : ez_I h70 71 14 = (ez_I h2 71 14) := (zI_ne e71 (by omega)).trans (f65)
        have f75 : ez_I h70 71 17 = (ez_I h2 71 17) := (zI_ne e71 (by omega)).trans (f66)
        have f76 : ez_I h70 71 18 = (ez_I h2 71 18) := (zI_ne e71 (by omega)).trans (f67)
        have A77 : laI (ez_I h70 82) (pK (ez_I h 72)) 65536 (p.toInt.toNat + 1) := laI_s A68 e71 (by rw [← hpk]; omega) (by omega) rfl
        have A78 : chn (tI (ez_I h70 81)) (pK (ez_I h 72)) (p.toInt.toNat + 1) := by rw [zI_fn e71 81 (by decide)]; exact A69
        clear A68
        clear A69
        refine z_inc rfl (by rw [show (1 : Int32).toInt = 1 from rfl]; omega) (fun x79 ex79 => ?_)
        rw [show (1 : Int32).toInt = 1 from rfl] at ex79
        show ez_gw _ _ _ _ _ _ _ _ [some (.ref 71), some (.int x79), some (.int x59), l3] _ _ _
        refine z_go ?_
        have t80 := congrArg Int32.toInt (f74)
        have t81 := congrArg Int32.toInt (f75)
        have t82 := congrArg Int32.toInt (f76)
        exact ih h70 x79 (some (.int x59)) (l3) F73 (by omega) ((by rw [show x79.toInt.toNat = (p.toInt.toNat + 1) by omega]; exact A77)) ((by rw [show x79.toInt.toNat = (p.toInt.toNat + 1) by omega]; exact A78)) (by omega)
set_option maxRecDepth 4000 in
set_option maxHeartbeats 20000000 in
theorem d_findParts_L0 {E : Nat → Nat × (Nat → Int32)} {d : Nat} {Q : ez_Q} {h : ez_H}  (S : zSh h) (M6 : 0 ≤ (ez_I h 71 6).toInt ∧ (ez_I h 71 6).toInt ≤ 6000) (hb : aR (ez_I h 72) 6000 (-128) 127) (K : ∀ h2, zW (fun q k => q = 71 ∧ k = 14 ∨ q = 71 ∧ k = 17 ∨ q = 71 ∧ k = 18) (fun q => 77 ≤ q ∧ q ≤ 82) (fun _ => False) h h2 → ∀ c : Nat, (ez_I h2 71 14).toInt = c → ptP (tB (ez_I h 72)) (ez_I h 71 6).toInt.toNat c = (ez_I h 71 6).toInt.toNat → ltP (tB (ez_I h 72)) (ez_I h 71 6).toInt.toNat c → pmI (ez_I h2 77) (ez_I h2 78) (ez_I h2 79) (ez_I h2 80) (tB (ez_I h 72)) (ez_I h 71 6).toInt.toNat c → Q (.inl none) h2) : ∀ N : Nat, (∀ (h2 : ez_H) (i : Int32) (l2 : Option Value) (l3 : Option Value) , zW (fun q k => q = 71 ∧ k = 14 ∨ q = 71 ∧ k = 17 ∨ q = 71 ∧ k = 18) (fun q => 77 ≤ q ∧ q ≤ 82) (fun _ => False) h h2 → (0 ≤ i.toInt ∧ i.toInt ≤ 65536) → aR (ez_I h2 82) i.toInt.toNat (-1) (-1) → (100000 - i.toInt) < (N : Int) → pw E (d + 1) 32 2 [some (.ref 71), some (.int i), l2, l3] [] h2 Q) := by
  intro N
  induction N with
  | zero => exact fun h2 i l2 l3  F hinv A_z hm => absurd hm (by have w_i := z_rng i; omega)
  | succ N ih =>
    refine fun h2 i l2 l3  F hinv A_z hm => ?_
    · skip
      have w_i := z_rng i
      have S2 := zW_sh F S
      apply ez_Wp_in
      show ez_gw _ _ _ _ _ _ (cz_32) _ _ _ _ _
      refine gw_skip _ ?_
      have r1 := z_rng (ez_I h2 71 14)
      have r2 := z_rng (ez_I h2 71 17)
      have r3 := z_rng (ez_I h2 71 18)
      refine gw_ld rfl rfl ?_
      refine z_C (m := 65536) rfl rfl (fun x4 ex4 => ?_)
      refine z_b2 (fun c5 => ?_) (fun c5 => ?_)
      · have c5 : x4.toInt ≤ i.toInt := c5
        refine gw_skip _ ?_
        refine z_C (m := 0) rfl rfl (fun x6 ex6 => ?_)
        refine gw_st rfl rfl rfl ?_
        show ez_gw _ _ _ _ _ _ _ _ [some (.ref 71), some (.int x6), l2, l3] _ _ _
        exact ez_Wp_at ((d_findParts_L1  S M6 hb K (((10000 - x6.toInt)).toNat + 1)) h2 x6 (l2) (l3) F (by omega) ((by rw [show x6.toInt.toNat = 0 by omega]; exact laI_a (aR_le A_z (by omega)))) ((by rw [show x6.toInt.toNat = 0 by omega]; exact chn_0 _ _)) (by omega)) rfl
      · have c5 : ¬ (x4.toInt ≤ i.toInt) := c5
        refine gw_ld rfl rfl ?_
        refine z_gR (q := 82) (zT S2 (by decide) rfl) (zRf S2 (by decide) (by decide) rfl) (by decide) ?_
        refine gw_ld rfl rfl ?_
        refine z_C (m := -1) rfl rfl (fun x7 ex7 => ?_)
        refine z_is (n := 65536) (zT S2 (by decide) rfl) (zN S2 (by decide) rfl) (by omega) (fun h8 e9 => ?_)
        have S10 := zSh_set S2 e9
        have F11 := zW_setA F e9 (by omega)
        have f12 : ez_I h8 71 14 = (ez_I h2 71 14) := (zI_ne e9 (by omega)).trans (rfl)
        have f13 : ez_I h8 71 17 = (ez_I h2 71 17) := (zI_ne e9 (by omega)).trans (rfl)
        have f14 : ez_I h8 71 18 = (ez_I h2 71 18) := (zI_ne e9 (by omega)).trans (rfl)
        have A15 : aR (ez_I h8 82) (i.toInt.toNat + 1) (-1) (-1) := aR_ex A_z e9 (by omega) (by omega)
        refine z_inc rfl (by rw [show (1 : Int32).toInt = 1 from rfl]; omega) (fun x16 ex16 => ?_)
        rw [show (1 : Int32).toInt = 1 from rfl] at ex16
        show ez_gw _ _ _ _ _ _ _ _ [some (.ref 71), some (.int x16), l2, l3] _ _ _
        refine z_go ?_
        have t17 := congrArg Int32.toInt (f12)
        have t18 := congrArg Int32.toInt (f13)
        have t19 := congrArg Int32.toInt (f14)
        exact ih h8 x16 (l2) (l3) F11 (by omega) (aR_le A15 (by omega)) (by omega)
set_option maxRecDepth 4000 in
set_option maxHeartbeats 20000000 in
theorem d_findParts {E : Nat → Nat × (Nat → Int32)} {d : Nat} {Q : ez_Q} {h : ez_H}  (S : zSh h) (M6 : 0 ≤ (ez_I h 71 6).toInt ∧ (ez_I h 71 6).toInt ≤ 6000) (hb : aR (ez_I h 72) 6000 (-128) 127) (K : ∀ h2, zW (fun q k => q = 71 ∧ k = 14 ∨ q = 71 ∧ k = 17 ∨ q = 71 ∧ k = 18) (fun q => 77 ≤ q ∧ q ≤ 82) (fun _ => False) h h2 → ∀ c : Nat, (ez_I h2 71 14).toInt = c → ptP (tB (ez_I h 72)) (ez_I h 71 6).toInt.toNat c = (ez_I h 71 6).toInt.toNat → ltP (tB (ez_I h 72)) (ez_I h 71 6).toInt.toNat c → pmI (ez_I h2 77) (ez_I h2 78) (ez_I h2 79) (ez_I h2 80) (tB (ez_I h 72)) (ez_I h 71 6).toInt.toNat c → Q (.inl none) h2) : pw E (d + 1) 32 0 [some (.ref 71), none, none, none] [] h Q := by
  have F := zW_refl (fun q k => q = 71 ∧ k = 14 ∨ q = 71 ∧ k = 17 ∨ q = 71 ∧ k = 18) (fun q => 77 ≤ q ∧ q ≤ 82) (fun _ => False) h
  apply ez_Wp_in
  show ez_gw _ _ _ _ _ _ (cz_32) _ _ _ _ _
  refine gw_skip _ ?_
  have r1 := z_rng (ez_I h 71 14)
  have r2 := z_rng (ez_I h 71 17)
  have r3 := z_rng (ez_I h 71 18)
  refine z_C (m := 0) rfl rfl (fun x4 ex4 => ?_)
  refine gw_st rfl rfl rfl ?_
  show ez_gw _ _ _ _ _ _ _ _ [some (.ref 71), some (.int x4), none, none] _ _ _
  exact ez_Wp_at ((d_findParts_L0  S M6 hb K (((100000 - x4.toInt)).toNat + 1)) h x4 (none) (none) F (by omega) ((by rw [show x4.toInt.toNat = 0 by omega]; exact aR_0 _ _ _)) (by omega)) rfl
