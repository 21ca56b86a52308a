/-! PRINTED by wip/p17/con5.py: contracts of the class, fourth part: Packer, Row.become, BlockBook -/
set_option maxRecDepth 4000 in
set_option maxHeartbeats 20000000 in
theorem k_become {E : Nat → Nat × (Nat → Int32)} {d : Nat} {Q : ez_Q} {h : ez_H} {p : Nat} {q : Nat} (X : xI h) (hp : p = 2 ∨ p = 4 ∨ p = 50) (hq : q = 2 ∨ q = 4 ∨ q = 50) (hpq : p ≠ q) (K : ∀ h2, zF (zX) h h2 → xI h2 → Q (.inl none) h2) : pw E d 130 0 [some (.ref p), some (.ref q)] [] h Q := by
  have F := zF_refl (zX) h
  apply ez_Wp_in
  show ez_gw _ _ _ _ _ _ (cz_130) _ _ _ _ _
  refine gw_skip _ ?_
  refine gw_ld rfl rfl ?_
  refine z_C (m := 0) rfl rfl (fun x1 ex1 => ?_)
  refine gw_ld rfl rfl ?_
  have r2 := zRowR X hq
  refine z_gI2 (by decide) ((zRow X.1 hq).1) (rfl) ?_
  refine z_C (m := 6100) rfl rfl (fun x3 ex3 => ?_)
  refine z_min rfl (fun x4 ex4 => ?_)
  refine z_max rfl (fun x5 ex5 => ?_)
  refine z_pI ((zRow X.1 hp).1) (fun h6 e7 => ?_)
  have X8 := xI_set X e7 (⟨fun c => by omega, fun c => by omega, fun c => by omega, fun c => by omega, fun c => by omega, fun c => by omega⟩)
  have F9 := zF_set F e7 (by unfold zX; omega)
  have f10 : ez_I h6 q 1 = (ez_I h q 1) := (zI_ne e7 (by omega)).trans rfl
  have f11 : ez_I h6 p 1 = x5 := zI_eq e7
  refine gw_ld rfl rfl ?_
  refine z_gR (q := (q + 1)) ((zRow X8.1 hq).1) ((zRow X8.1 hq).2.1) (Nat.succ_ne_zero _) ?_
  refine z_C (m := 0) rfl rfl (fun x12 ex12 => ?_)
  refine gw_ld rfl rfl ?_
  refine z_gR (q := (p + 1)) ((zRow X8.1 hp).1) ((zRow X8.1 hp).2.1) (Nat.succ_ne_zero _) ?_
  refine z_C (m := 0) rfl rfl (fun x13 ex13 => ?_)
  refine gw_ld rfl rfl ?_
  refine z_gI2 (by decide) ((zRow X8.1 hp).1) (f11) ?_
  refine z_ac (n := 6100) (m := 6100) rfl ((zRow X8.1 hq).2.2.1) ((zRow X8.1 hp).2.2.1) ((zRow X8.1 hq).2.2.2) ((zRow X8.1 hp).2.2.2) (by omega) (fun h14 e15 => ?_)
  have X16 := xI_row X8 e15 (by omega)
  have F17 := zF_row F9 e15 (by unfold zX; omega)
  have f18 : ez_I h14 q 1 = (ez_I h q 1) := (zI_row e15 (by omega)).trans f10
  have f19 : ez_I h14 p 1 = x5 := (zI_row e15 (by omega)).trans f11
  refine z_rv ?_
  have t20 := congrArg Int32.toInt f18
  have t21 := congrArg Int32.toInt f19
  exact K _ F17 X16
set_option maxRecDepth 4000 in
set_option maxHeartbeats 20000000 in
theorem k_keep {E : Nat → Nat × (Nat → Int32)} {d : Nat} {Q : ez_Q} {h : ez_H} {i : Int32} (X : xI h)  (K : ∀ h2, zF (zX) h h2 → xI h2 → Q (.inl none) h2) : pw E (d + 1) 77 0 [some (.ref 55), some (.int i), some (.ref 14), none] [] h Q := by
  have gi := z_rng i
  have F := zF_refl (zX) h
  apply ez_Wp_in
  show ez_gw _ _ _ _ _ _ (cz_77) _ _ _ _ _
  refine gw_skip _ ?_
  refine gw_ld rfl rfl ?_
  refine gw_ld rfl rfl ?_
  refine z_cl rfl rfl rfl rfl rfl rfl rfl rfl rfl rfl rfl (zT X.1 (by decide) rfl) ?_
  refine k_bhas X  (fun x1 k2 k3 => ?_)
  have rx1 := z_rng x1
  refine z_b1 (fun c4 => ?_) (fun c4 => ?_)
  · have c4 : x1.toInt = 0 := c4
    refine gw_skip _ ?_
    refine z_rv ?_
    exact K _ F X
  · have c4 : ¬ (x1.toInt = 0) := c4
    refine gw_ld rfl rfl ?_
    refine z_C (m := 335) rfl rfl (fun x5 ex5 => ?_)
    first | refine z_mulR (c := 335) ex5 (by omega) (fun x6 ex6 => ?_) | refine z_mulW (fun x6 ex6 => ?_)
    have rx6 := z_rng x6
    refine gw_st rfl rfl rfl ?_
    show ez_gw _ _ _ _ _ _ _ _ [some (.ref 55), some (.int i), some (.ref 14), some (.int x6)] _ _ _
    refine gw_ld rfl rfl ?_
    refine z_gR (q := 29) (zT X.1 (by decide) rfl) (zRf X.1 (by decide) (by decide) rfl) (by decide) ?_
    refine z_gR (q := 30) (zT X.1 (by decide) rfl) (zRf X.1 (by decide) (by decide) rfl) (by decide) ?_
    refine z_C (m := 0) rfl rfl (fun x7 ex7 => ?_)
    refine gw_ld rfl rfl ?_
    refine z_gR (q := 57) (zT X.1 (by decide) rfl) (zRf X.1 (by decide) (by decide) rfl) (by decide) ?_
    refine gw_ld rfl rfl ?_
    refine z_C (m := 286) rfl rfl (fun x8 ex8 => ?_)
    refine z_ac (n := 288) (m := 3350) rfl (zT X.1 (by decide) rfl) (zT X.1 (by decide) rfl) (zN X.1 (by decide) rfl) (zN X.1 (by decide) rfl) (by omega) (fun h9 e10 => ?_)
    have X11 := xI_row X e10 (by omega)
    have F12 := zF_row F e10 (by unfold zX; omega)
    refine gw_ld rfl rfl ?_
    refine z_gR (q := 36) (zT X11.1 (by decide) rfl) (zRf X11.1 (by decide) (by decide) rfl) (by decide) ?_
    refine z_gR (q := 37) (zT X11.1 (by decide) rfl) (zRf X11.1 (by decide) (by decide) rfl) (by decide) ?_
    refine z_C (m := 0) rfl rfl (fun x13 ex13 => ?_)
    refine gw_ld rfl rfl ?_
    refine z_gR (q := 57) (zT X11.1 (by decide) rfl) (zRf X11.1 (by decide) (by decide) rfl) (by decide) ?_
    refine gw_ld rfl rfl ?_
    refine z_C (m := 286) rfl rfl (fun x14 ex14 => ?_)
    first | refine z_add (by omega) (fun x15 ex15 => ?_) | refine z_addW (fun x15 ex15 => ?_)
    have rx15 := z_rng x15
    refine z_C (m := 30) rfl rfl (fun x16 ex16 => ?_)
    refine z_ac (n := 288) (m := 3350) rfl (zT X11.1 (by decide) rfl) (zT X11.1 (by decide) rfl) (zN X11.1 (by decide) rfl) (zN X11.1 (by decide) rfl) (by omega) (fun h17 e18 => ?_)
    have X19 := xI_row X11 e18 (by omega)
    have F20 := zF_row F12 e18 (by unfold zX; omega)
    refine gw_ld rfl rfl ?_
    refine z_gR (q := 43) (zT X19.1 (by decide) rfl) (zRf X19.1 (by decide) (by decide) rfl) (by decide) ?_
    refine z_gR (q := 44) (zT X19.1 (by decide) rfl) (zRf X19.1 (by decide) (by decide) rfl) (by decide) ?_
    refine z_C (m := 0) rfl rfl (fun x21 ex21 => ?_)
    refine gw_ld rfl rfl ?_
    refine z_gR (q := 57) (zT X19.1 (by decide) rfl) (zRf X19.1 (by decide) (by decide) rfl) (by decide) ?_
    refine gw_ld rfl rfl ?_
    refine z_C (m := 286) rfl rfl (fun x22 ex22 => ?_)
    first | refine z_add (by omega) (fun x23 ex23 => ?_) | refine z_addW (fun x23 ex23 => ?_)
    have rx23 := z_rng x23
    refine z_C (m := 30) rfl rfl (fun x24 ex24 => ?_)
    first | refine z_add (by omega) (fun x25 ex25 => ?_) | refine z_addW (fun x25 ex25 => ?_)
    have rx25 := z_rng x25
    refine z_C (m := 19) rfl rfl (fun x26 ex26 => ?_)
    refine z_ac (n := 288) (m := 3350) rfl (zT X19.1 (by decide) rfl) (zT X19.1 (by decide) rfl) (zN X19.1 (by decide) rfl) (zN X19.1 (by decide) rfl) (by omega) (fun h27 e28 => ?_)
    have X29 := xI_row X19 e28 (by omega)
    have F30 := zF_row F20 e28 (by unfold zX; omega)
    refine z_rv ?_
    exact K _ F30 X29
theorem z_from {n : Nat} (h : n < 3) : 0 ≤ ((tz_ar (9 + 1)).getD n 0).toInt ∧ ((tz_ar (9 + 1)).getD n 0).toInt + ((tz_ar (10 + 1)).getD n 0).toInt ≤ 335 := by
  revert n; decide
set_option maxRecDepth 4000 in
set_option maxHeartbeats 20000000 in
theorem k_codeL {E : Nat → Nat × (Nat → Int32)} {d : Nat} {Q : ez_Q} {h : ez_H} {i : Int32} {w : Int32} {y : Int32} (X : xI h) (hE : zE E) (K : ∀ x : Int32, Q (.inl (some (.int x))) h) : pw E (d + 2) 78 0 [some (.ref 55), some (.int i), some (.int w), some (.int y)] [] h Q := by
  have gi := z_rng i
  have gw := z_rng w
  have gy := z_rng y
  have F := zF_refl (zX) h
  apply ez_Wp_in
  show ez_gw _ _ _ _ _ _ (cz_78) _ _ _ _ _
  refine gw_skip _ ?_
  refine gw_ld rfl rfl ?_
  refine gw_ld rfl rfl ?_
  refine z_C (m := 0) rfl rfl (fun x1 ex1 => ?_)
  refine z_cl rfl rfl rfl rfl rfl rfl rfl rfl rfl rfl rfl (zT X.1 (by decide) rfl) ?_
  refine k_fact X  (fun x2 k3 => ?_)
  have rx2 := z_rng x2
  refine z_C (m := 2) rfl rfl (fun x4 ex4 => ?_)
  refine z_b2 (fun c5 => ?_) (fun c5 => ?_)
  · have c5 : x2.toInt ≠ x4.toInt := c5
    refine gw_skip _ ?_
    refine z_C (m := -1) rfl rfl (fun x6 ex6 => ?_)
    refine z_ri ?_
    exact K x6
  · have c5 : ¬ (x2.toInt ≠ x4.toInt) := c5
    refine gw_ld rfl rfl ?_
    refine z_b1 (fun c7 => ?_) (fun c7 => ?_)
    · have c7 : w.toInt < 0 := c7
      refine gw_skip _ ?_
      refine z_C (m := -1) rfl rfl (fun x8 ex8 => ?_)
      refine z_ri ?_
      exact K x8
    · have c7 : ¬ (w.toInt < 0) := c7
      refine gw_ld rfl rfl ?_
      refine z_gs ?_
      refine z_alE (n := 3) (by rw [hE 9]; rfl) (by omega) (fun x9 ex9 => ?_)
      refine z_b2 (fun c10 => ?_) (fun c10 => ?_)
      · have c10 : w.toInt < x9.toInt := c10
        refine gw_skip _ ?_
        refine gw_ld rfl rfl ?_
        refine z_b1 (fun c11 => ?_) (fun c11 => ?_)
        · have c11 : y.toInt < 0 := c11
          refine gw_skip _ ?_
          refine z_C (m := -1) rfl rfl (fun x12 ex12 => ?_)
          refine z_ri ?_
          exact K x12
        · have c11 : ¬ (y.toInt < 0) := c11
          refine gw_ld rfl rfl ?_
          refine z_gs ?_
          refine gw_ld rfl rfl ?_
          refine z_iaE (n := 3) (hE 10) (by omega) ?_
          generalize ex13 : (tz_ar (10 + 1)).getD w.toInt.toNat 0 = x13
          have rx13 := z_rng x13
          have qx13 := congrArg Int32.toInt ex13
          have ox13 := z_from (n := w.toInt.toNat) (by omega)
          refine z_b2 (fun c14 => ?_) (fun c14 => ?_)
          · have c14 : y.toInt < x13.toInt := c14
            refine gw_skip _ ?_
            refine gw_ld rfl rfl ?_
            refine z_gR (q := 57) (zT X.1 (by decide) rfl) (zRf X.1 (by decide) (by decide) rfl) (by decide) ?_
            refine gw_ld rfl rfl ?_
            refine z_C (m := 335) rfl rfl (fun x15 ex15 => ?_)
            first | refine z_mulR (c := 335) ex15 (by omega) (fun x16 ex16 => ?_) | refine z_mulW (fun x16 ex16 => ?_)
            have rx16 := z_rng x16
            refine z_gs ?_
            refine gw_ld rfl rfl ?_
            refine z_iaE (n := 3) (hE 9) (by omega) ?_
            generalize ex17 : (tz_ar (9 + 1)).getD w.toInt.toNat 0 = x17
            have rx17 := z_rng x17
            have qx17 := congrArg Int32.toInt ex17
            first | refine z_add (by omega) (fun x18 ex18 => ?_) | refine z_addW (fun x18 ex18 => ?_)
            have rx18 := z_rng x18
            refine gw_ld rfl rfl ?_
            first | refine z_add (by omega) (fun x19 ex19 => ?_) | refine z_addW (fun x19 ex19 => ?_)
            have rx19 := z_rng x19
            refine z_ia (n := 3350) (zT X.1 (by decide) rfl) (zN X.1 (by decide) rfl) (by omega) ?_
            generalize ex20 : ez_I h 57 x19.toInt.toNat = x20
            have rx20 := z_rng x20
            have qx20 := congrArg Int32.toInt ex20
            refine z_ri ?_
            exact K x20
          · have c14 : ¬ (y.toInt < x13.toInt) := c14
            refine z_C (m := -1) rfl rfl (fun x21 ex21 => ?_)
            refine z_ri ?_
            exact K x21
      · have c10 : ¬ (w.toInt < x9.toInt) := c10
        refine z_C (m := -1) rfl rfl (fun x22 ex22 => ?_)
        refine z_ri ?_
        exact K x22
set_option maxRecDepth 4000 in
set_option maxHeartbeats 20000000 in
theorem k_split_L {E : Nat → Nat × (Nat → Int32)} {d : Nat} {Q : ez_Q} {h : ez_H}  (X : xI h)  (K : ∀ h2, zF (fun q => q = 53 ∨ q = 54 ∨ q = 58 ∨ q = 59 ∨ q = 60) h h2 → xI h2 → Q (.inl none) h2) : ∀ N : Nat, (∀ (h2 : ez_H) (n : Int) (b : Int32) (l : Int32) (ds : Int32) (i : Int32) (l6 : Option Value), zF (fun q => q = 53 ∨ q = 54 ∨ q = 58 ∨ q = 59 ∨ q = 60) h h2 → xI h2 → ((0 ≤ i.toInt ∧ 0 ≤ b.toInt ∧ b.toInt ≤ 7000 ∧ 0 ≤ l.toInt ∧ l.toInt ≤ 258 ∧ (n + 3 > (ez_I h2 2 1).toInt ∨ n ≥ 6000)) ∧ chI h2 n) → (2147483647 - i.toInt) < (N : Int) → pw E (d + 2) 115 41 [some (.ref 52), some (.ref 2), some (.int b), some (.int l), some (.int ds), some (.int i), l6] [] h2 Q) := by
  intro N
  induction N with
  | zero => exact fun h2 n b l ds i l6 F X2 hinv hm => absurd hm (by have w0 := z_rng i; have w3 := X2.2.1; omega)
  | succ N ih =>
    refine fun h2 n b l ds i l6 F X2 hinv hm => ?_
    · skip
      have w0 := z_rng i
      have w3 := X2.2.1
      apply ez_Wp_in
      show ez_gw _ _ _ _ _ _ (cz_115) _ _ _ _ _
      refine gw_skip _ ?_
      refine gw_ld rfl rfl ?_
      refine gw_ld rfl rfl ?_
      refine z_gI2 (by decide) (zT X2.1 (by decide) rfl) (rfl) ?_
      refine z_b2 (fun c1 => ?_) (fun c1 => ?_)
      · have c1 : ((ez_I h2 2 1)).toInt ≤ i.toInt := c1
        refine gw_skip _ ?_
        refine z_rv ?_
        exact K _ F X2
      · have c1 : ¬ (((ez_I h2 2 1)).toInt ≤ i.toInt) := c1
        refine gw_ld rfl rfl ?_
        refine gw_ld rfl rfl ?_
        refine z_gI2 (by decide) (zT X2.1 (by decide) rfl) (rfl) ?_
        refine z_b2 (fun c2 => ?_) (fun c2 => ?_)
        · have c2 : ((ez_I h2 2 1)).toInt ≤ b.toInt := c2
          refine gw_skip _ ?_
          refine z_rv ?_
          exact K _ F X2
        · have c2 : ¬ (((ez_I h2 2 1)).toInt ≤ b.toInt) := c2
          refine gw_ld rfl rfl ?_
          refine z_gR (q := 58) (zT X2.1 (by decide) rfl) (zRf X2.1 (by decide) (by decide) rfl) (by decide) ?_
          refine gw_ld rfl rfl ?_
          refine gw_ld rfl rfl ?_
          refine z_C (m := 1) rfl rfl (fun x3 ex3 => ?_)
          first | refine z_add (by omega) (fun x4 ex4 => ?_) | refine z_addW (fun x4 ex4 => ?_)
          have rx4 := z_rng x4
          refine gw_ld rfl rfl ?_
          refine z_cl rfl rfl rfl rfl rfl rfl rfl rfl rfl rfl rfl (zT X2.1 (by decide) rfl) ?_
          refine k_search X2 hinv.2 (by omega) (by omega) (fun h5 x8 F6 X7 k9 => ?_)
          have rx8 := z_rng x8
          have F10 := zF_tr F (zF_mono F6 (fun q hq => by first | exact hq | (unfold zX at *; omega) | omega))
          have f11 : ez_I h5 2 1 = (ez_I h2 2 1) := zF_I F6 (by omega) (rfl)
          have ch12 := chI_F hinv.2 F6 (by omega) (by omega)
          refine gw_st rfl rfl rfl ?_
          show ez_gw _ _ _ _ _ _ _ _ [some (.ref 52), some (.ref 2), some (.int b), some (.int l), some (.int ds), some (.int i), some (.int x8)] _ _ _
          refine gw_ld rfl rfl ?_
          refine z_b1 (fun c13 => ?_) (fun c13 => ?_)
          · have c13 : l.toInt = 0 := c13
            refine gw_skip _ ?_
            refine gw_ld rfl rfl ?_
            refine z_gR (q := 53) (zT X7.1 (by decide) rfl) (zRf X7.1 (by decide) (by decide) rfl) (by decide) ?_
            refine gw_ld rfl rfl ?_
            refine z_gR (q := 3) (zT X7.1 (by decide) rfl) (zRf X7.1 (by decide) (by decide) rfl) (by decide) ?_
            refine gw_ld rfl rfl ?_
            refine z_ia (n := 6100) (zT X7.1 (by decide) rfl) (zN X7.1 (by decide) rfl) (by omega) ?_
            generalize ex14 : ez_I h5 3 b.toInt.toNat = x14
            have rx14 := z_rng x14
            have qx14 := congrArg Int32.toInt ex14
            refine z_C (m := 0) rfl rfl (fun x15 ex15 => ?_)
            have t16 := congrArg Int32.toInt f11
            refine z_cl rfl rfl rfl rfl rfl rfl rfl rfl rfl rfl rfl (zT X7.1 (by decide) rfl) ?_
            refine k_padd X7  (fun h17 F18 X19  => ?_)
            have F20 := zF_tr F10 (zF_mono F18 (fun q hq => by first | exact hq | (unfold zX at *; omega) | omega))
            have f21 : ez_I h17 2 1 = (ez_I h2 2 1) := zF_I F18 (by omega) (f11)
            have ch22 := chI_F ch12 F18 (by omega) (by omega)
            first | (refine z_inc rfl (by rw [show (1 : Int32).toInt = 1 from rfl]; omega) (fun x23 ex23 => ?_); rw [show (1 : Int32).toInt = 1 from rfl] at ex23) | refine z_incW rfl (fun x23 ex23 => ?_)
            have rx23 := z_rng x23
            show ez_gw _ _ _ _ _ _ _ _ [some (.ref 52), some (.ref 2), some (.int x23), some (.int l), some (.int ds), some (.int i), some (.int x8)] _ _ _
            refine gw_ld rfl rfl ?_
            refine gw_st rfl rfl rfl ?_
            show ez_gw _ _ _ _ _ _ _ _ [some (.ref 52), some (.ref 2), some (.int x23), some (.int x8), some (.int ds), some (.int i), some (.int x8)] _ _ _
            refine z_go ?_
            refine gw_skip _ ?_
            refine gw_ld rfl rfl ?_
            refine z_gR (q := 58) (zT X19.1 (by decide) rfl) (zRf X19.1 (by decide) (by decide) rfl) (by decide) ?_
            have r24 := z_rng ((ez_I h17 58 2))
            refine z_gI2 (by decide) (zT X19.1 (by decide) rfl) (rfl) ?_
            refine gw_st rfl rfl rfl ?_
            show ez_gw _ _ _ _ _ _ _ _ [some (.ref 52), some (.ref 2), some (.int x23), some (.int x8), some (.int (ez_I h17 58 2)), some (.int i), some (.int x8)] _ _ _
            first | (refine z_inc rfl (by rw [show (1 : Int32).toInt = 1 from rfl]; omega) (fun x25 ex25 => ?_); rw [show (1 : Int32).toInt = 1 from rfl] at ex25) | refine z_incW rfl (fun x25 ex25 => ?_)
            have rx25 := z_rng x25
            show ez_gw _ _ _ _ _ _ _ _ [some (.ref 52), some (.ref 2), some (.int x23), some (.int x8), some (.int (ez_I h17 58 2)), some (.int x25), some (.int x8)] _ _ _
            refine z_go ?_
            have t26 := congrArg Int32.toInt f21
            exact ih _ _ x23 x8 (ez_I h17 58 2) x25 (some (.int x8)) F20 X19 (⟨by omega, ch22⟩) (by omega)
          · have c13 : ¬ (l.toInt = 0) := c13
            refine gw_ld rfl rfl ?_
            refine z_b1 (fun c27 => ?_) (fun c27 => ?_)
            · have c27 : x8.toInt ≤ 0 := c27
              refine gw_skip _ ?_
              refine gw_ld rfl rfl ?_
              refine z_gR (q := 53) (zT X7.1 (by decide) rfl) (zRf X7.1 (by decide) (by decide) rfl) (by decide) ?_
              refine gw_ld rfl rfl ?_
              refine gw_ld rfl rfl ?_
              have t28 := congrArg Int32.toInt f11
              refine z_cl rfl rfl rfl rfl rfl rfl rfl rfl rfl rfl rfl (zT X7.1 (by decide) rfl) ?_
              refine k_padd X7  (fun h29 F30 X31  => ?_)
              have F32 := zF_tr F10 (zF_mono F30 (fun q hq => by first | exact hq | (unfold zX at *; omega) | omega))
              have f33 : ez_I h29 2 1 = (ez_I h2 2 1) := zF_I F30 (by omega) (f11)
              have ch34 := chI_F ch12 F30 (by omega) (by omega)
              refine gw_ld rfl rfl ?_
              refine gw_ld rfl rfl ?_
              first | refine z_add (by omega) (fun x35 ex35 => ?_) | refine z_addW (fun x35 ex35 => ?_)
              have rx35 := z_rng x35
              refine gw_st rfl rfl rfl ?_
              show ez_gw _ _ _ _ _ _ _ _ [some (.ref 52), some (.ref 2), some (.int x35), some (.int l), some (.int ds), some (.int i), some (.int x8)] _ _ _
              refine gw_ld rfl rfl ?_
              refine z_gR (q := 58) (zT X31.1 (by decide) rfl) (zRf X31.1 (by decide) (by decide) rfl) (by decide) ?_
              refine gw_ld rfl rfl ?_
              refine gw_ld rfl rfl ?_
              refine z_C (m := 0) rfl rfl (fun x36 ex36 => ?_)
              have t37 := congrArg Int32.toInt f33
              refine z_cl rfl rfl rfl rfl rfl rfl rfl rfl rfl rfl rfl (zT X31.1 (by decide) rfl) ?_
              refine k_search X31 ch34 (by omega) (by omega) (fun h38 x41 F39 X40 k42 => ?_)
              have rx41 := z_rng x41
              have F43 := zF_tr F32 (zF_mono F39 (fun q hq => by first | exact hq | (unfold zX at *; omega) | omega))
              have f44 : ez_I h38 2 1 = (ez_I h2 2 1) := zF_I F39 (by omega) (f33)
              have ch45 := chI_F ch34 F39 (by omega) (by omega)
              refine gw_st rfl rfl rfl ?_
              show ez_gw _ _ _ _ _ _ _ _ [some (.ref 52), some (.ref 2), some (.int x35), some (.int x41), some (.int ds), some (.int i), some (.int x8)] _ _ _
              refine gw_ld rfl rfl ?_
              refine z_gR (q := 58) (zT X40.1 (by decide) rfl) (zRf X40.1 (by decide) (by decide) rfl) (by decide) ?_
              have r46 := z_rng ((ez_I h38 58 2))
              refine z_gI2 (by decide) (zT X40.1 (by decide) rfl) (rfl) ?_
              refine gw_st rfl rfl rfl ?_
              show ez_gw _ _ _ _ _ _ _ _ [some (.ref 52), some (.ref 2), some (.int x35), some (.int x41), some (.int (ez_I h38 58 2)), some (.int i), some (.int x8)] _ _ _
              first | (refine z_inc rfl (by rw [show (1 : Int32).toInt = 1 from rfl]; omega) (fun x47 ex47 => ?_); rw [show (1 : Int32).toInt = 1 from rfl] at ex47) | refine z_incW rfl (fun x47 ex47 => ?_)
              have rx47 := z_rng x47
              show ez_gw _ _ _ _ _ _ _ _ [some (.ref 52), some (.ref 2), some (.int x35), some (.int x41), some (.int (ez_I h38 58 2)), some (.int x47), some (.int x8)] _ _ _
              refine z_go ?_
              have t48 := congrArg Int32.toInt f44
              exact ih _ _ x35 x41 (ez_I h38 58 2) x47 (some (.int x8)) F43 X40 (⟨by omega, ch45⟩) (by omega)
            · have c27 : ¬ (x8.toInt ≤ 0) := c27
              refine gw_ld rfl rfl ?_
              refine z_gR (q := 53) (zT X7.1 (by decide) rfl) (zRf X7.1 (by decide) (by decide) rfl) (by decide) ?_
              refine gw_ld rfl rfl ?_
              refine z_gR (q := 3) (zT X7.1 (by decide) rfl) (zRf X7.1 (by decide) (by decide) rfl) (by decide) ?_
              refine gw_ld rfl rfl ?_
              refine z_ia (n := 6100) (zT X7.1 (by decide) rfl) (zN X7.1 (by decide) rfl) (by omega) ?_
              generalize ex49 : ez_I h5 3 b.toInt.toNat = x49
              have rx49 := z_rng x49
              have qx49 := congrArg Int32.toInt ex49
              refine z_C (m := 0) rfl rfl (fun x50 ex50 => ?_)
              have t51 := congrArg Int32.toInt f11
              refine z_cl rfl rfl rfl rfl rfl rfl rfl rfl rfl rfl rfl (zT X7.1 (by decide) rfl) ?_
              refine k_padd X7  (fun h52 F53 X54  => ?_)
              have F55 := zF_tr F10 (zF_mono F53 (fun q hq => by first | exact hq | (unfold zX at *; omega) | omega))
              have f56 : ez_I h52 2 1 = (ez_I h2 2 1) := zF_I F53 (by omega) (f11)
              have ch57 := chI_F ch12 F53 (by omega) (by omega)
              first | (refine z_inc rfl (by rw [show (1 : Int32).toInt = 1 from rfl]; omega) (fun x58 ex58 => ?_); rw [show (1 : Int32).toInt = 1 from rfl] at ex58) | refine z_incW rfl (fun x58 ex58 => ?_)
              have rx58 := z_rng x58
              show ez_gw _ _ _ _ _ _ _ _ [some (.ref 52), some (.ref 2), some (.int x58), some (.int l), some (.int ds), some (.int i), some (.int x8)] _ _ _
              refine gw_ld rfl rfl ?_
              refine gw_st rfl rfl rfl ?_
              show ez_gw _ _ _ _ _ _ _ _ [some (.ref 52), some (.ref 2), some (.int x58), some (.int x8), some (.int ds), some (.int i), some (.int x8)] _ _ _
              refine z_go ?_
              refine gw_skip _ ?_
              refine gw_ld rfl rfl ?_
              refine z_gR (q := 58) (zT X54.1 (by decide) rfl) (zRf X54.1 (by decide) (by decide) rfl) (by decide) ?_
              have r59 := z_rng ((ez_I h52 58 2))
              refine z_gI2 (by decide) (zT X54.1 (by decide) rfl) (rfl) ?_
              refine gw_st rfl rfl rfl ?_
              show ez_gw _ _ _ _ _ _ _ _ [some (.ref 52), some (.ref 2), some (.int x58), some (.int x8), some (.int (ez_I h52 58 2)), some (.int i), some (.int x8)] _ _ _
              first | (refine z_inc rfl (by rw [show (1 : Int32).toInt = 1 from rfl]; omega) (fun x60 ex60 => ?_); rw [show (1 : Int32).toInt = 1 from rfl] at ex60) | refine z_incW rfl (fun x60 ex60 => ?_)
              have rx60 := z_rng x60
              show ez_gw _ _ _ _ _ _ _ _ [some (.ref 52), some (.ref 2), some (.int x58), some (.int x8), some (.int (ez_I h52 58 2)), some (.int x60), some (.int x8)] _ _ _
              refine z_go ?_
              have t61 := congrArg Int32.toInt f56
              exact ih _ _ x58 x8 (ez_I h52 58 2) x60 (some (.int x8)) F55 X54 (⟨by omega, ch57⟩) (by omega)
set_option maxRecDepth 4000 in
set_option maxHeartbeats 20000000 in
theorem k_split {E : Nat → Nat × (Nat → Int32)} {d : Nat} {Q : ez_Q} {h : ez_H}  (X : xI h)  (K : ∀ h2, zF (fun q => q = 53 ∨ q = 54 ∨ q = 58 ∨ q = 59 ∨ q = 60) h h2 → xI h2 → Q (.inl none) h2) : pw E (d + 2) 115 0 [some (.ref 52), some (.ref 2), none, none, none, none, none] [] h Q := by
  have F := zF_refl (fun q => q = 53 ∨ q = 54 ∨ q = 58 ∨ q = 59 ∨ q = 60) h
  apply ez_Wp_in
  show ez_gw _ _ _ _ _ _ (cz_115) _ _ _ _ _
  refine gw_skip _ ?_
  refine gw_ld rfl rfl ?_
  refine z_gR (q := 58) (zT X.1 (by decide) rfl) (zRf X.1 (by decide) (by decide) rfl) (by decide) ?_
  refine gw_ld rfl rfl ?_
  refine z_cl rfl rfl rfl rfl rfl rfl rfl rfl rfl rfl rfl (zT X.1 (by decide) rfl) ?_
  refine k_chain X (fun h1 n2 F3 X4 ch5 k6 => ?_)
  have F7 := zF_tr F (zF_mono F3 (fun q hq => by first | exact hq | (unfold zX at *; omega) | omega))
  refine gw_ld rfl rfl ?_
  refine z_gR (q := 53) (zT X4.1 (by decide) rfl) (zRf X4.1 (by decide) (by decide) rfl) (by decide) ?_
  refine z_C (m := 0) rfl rfl (fun x8 ex8 => ?_)
  refine z_pI (zT X4.1 (by decide) rfl) (fun h9 e10 => ?_)
  have X11 := xI_set X4 e10 (⟨fun c => by omega, fun c => by omega, fun c => by omega, fun c => by omega, fun c => by omega, fun c => by omega⟩)
  have F12 := zF_set F7 e10 (by omega)
  have f13 : ez_I h9 2 1 = (ez_I h1 2 1) := (zI_ne e10 (by omega)).trans rfl
  have f14 : ez_I h9 53 1 = x8 := zI_eq e10
  have ch15 := chI_set ch5 e10 (by omega)
  refine z_C (m := 0) rfl rfl (fun x16 ex16 => ?_)
  refine gw_st rfl rfl rfl ?_
  show ez_gw _ _ _ _ _ _ _ _ [some (.ref 52), some (.ref 2), some (.int x16), none, none, none, none] _ _ _
  refine gw_ld rfl rfl ?_
  refine z_gR (q := 58) (zT X11.1 (by decide) rfl) (zRf X11.1 (by decide) (by decide) rfl) (by decide) ?_
  refine gw_ld rfl rfl ?_
  refine z_C (m := 0) rfl rfl (fun x17 ex17 => ?_)
  refine z_C (m := 0) rfl rfl (fun x18 ex18 => ?_)
  have t19 := congrArg Int32.toInt f13
  have t20 := congrArg Int32.toInt f14
  refine z_cl rfl rfl rfl rfl rfl rfl rfl rfl rfl rfl rfl (zT X11.1 (by decide) rfl) ?_
  refine k_search X11 ch15 (by omega) (by omega) (fun h21 x24 F22 X23 k25 => ?_)
  have rx24 := z_rng x24
  have F26 := zF_tr F12 (zF_mono F22 (fun q hq => by first | exact hq | (unfold zX at *; omega) | omega))
  have f27 : ez_I h21 2 1 = (ez_I h1 2 1) := zF_I F22 (by omega) (f13)
  have f28 : ez_I h21 53 1 = x8 := zF_I F22 (by omega) (f14)
  have ch29 := chI_F ch15 F22 (by omega) (by omega)
  refine gw_st rfl rfl rfl ?_
  show ez_gw _ _ _ _ _ _ _ _ [some (.ref 52), some (.ref 2), some (.int x16), some (.int x24), none, none, none] _ _ _
  refine gw_ld rfl rfl ?_
  refine z_gR (q := 58) (zT X23.1 (by decide) rfl) (zRf X23.1 (by decide) (by decide) rfl) (by decide) ?_
  have r30 := z_rng ((ez_I h21 58 2))
  refine z_gI2 (by decide) (zT X23.1 (by decide) rfl) (rfl) ?_
  refine gw_st rfl rfl rfl ?_
  show ez_gw _ _ _ _ _ _ _ _ [some (.ref 52), some (.ref 2), some (.int x16), some (.int x24), some (.int (ez_I h21 58 2)), none, none] _ _ _
  refine z_C (m := 0) rfl rfl (fun x31 ex31 => ?_)
  refine gw_st rfl rfl rfl ?_
  show ez_gw _ _ _ _ _ _ _ _ [some (.ref 52), some (.ref 2), some (.int x16), some (.int x24), some (.int (ez_I h21 58 2)), some (.int x31), none] _ _ _
  have t32 := congrArg Int32.toInt f27
  have t33 := congrArg Int32.toInt f28
  exact ez_Wp_out ((k_split_L X K (((2147483647 - x31.toInt)).toNat + 1)) _ _ x16 x24 (ez_I h21 58 2) x31 (none) F26 X23 (⟨by omega, ch29⟩) (by omega))
set_option maxRecDepth 4000 in
set_option maxHeartbeats 20000000 in
theorem k_cPart {E : Nat → Nat × (Nat → Int32)} {d : Nat} {Q : ez_Q} {h : ez_H} {a : Int32} {b : Int32} (X : xI h) (hE : zE E) (K : ∀ h2, zF (zX) h h2 → xI h2 → Q (.inl none) h2) : pw E (d + 1) 117 0 [some (.ref 52), some (.int a), some (.int b), none, none] [] h Q := by
  have ga := z_rng a
  have gb := z_rng b
  have F := zF_refl (zX) h
  apply ez_Wp_in
  show ez_gw _ _ _ _ _ _ (cz_117) _ _ _ _ _
  refine gw_skip _ ?_
  refine gw_ld rfl rfl ?_
  refine z_b1 (fun c1 => ?_) (fun c1 => ?_)
  · have c1 : b.toInt ≤ 0 := c1
    refine gw_skip _ ?_
    refine gw_ld rfl rfl ?_
    refine z_b1 (fun c2 => ?_) (fun c2 => ?_)
    · have c2 : a.toInt < 0 := c2
      refine gw_skip _ ?_
      refine z_rv ?_
      exact K _ F X
    · have c2 : ¬ (a.toInt < 0) := c2
      refine gw_ld rfl rfl ?_
      refine z_C (m := 256) rfl rfl (fun x3 ex3 => ?_)
      refine z_b2 (fun c4 => ?_) (fun c4 => ?_)
      · have c4 : x3.toInt ≤ a.toInt := c4
        refine gw_skip _ ?_
        refine z_rv ?_
        exact K _ F X
      · have c4 : ¬ (x3.toInt ≤ a.toInt) := c4
        refine gw_ld rfl rfl ?_
        refine z_gR (q := 66) (zT X.1 (by decide) rfl) (zRf X.1 (by decide) (by decide) rfl) (by decide) ?_
        refine gw_ld rfl rfl ?_
        refine gw_op rfl ?_
        refine z_ia (n := 286) (zT X.1 (by decide) rfl) (zN X.1 (by decide) rfl) (by omega) ?_
        generalize ex5 : ez_I h 66 a.toInt.toNat = x5
        have rx5 := z_rng x5
        have qx5 := congrArg Int32.toInt ex5
        refine z_C (m := 1) rfl rfl (fun x6 ex6 => ?_)
        refine z_addW (fun x7 ex7 => ?_)
        have rx7 := z_rng x7
        have qx7 := congrArg Int32.toInt ex7
        refine z_is (n := 286) (zT X.1 (by decide) rfl) (zN X.1 (by decide) rfl) (by omega) (fun h8 e9 => ?_)
        have X10 := xI_set X e9 (xW_of (by decide))
        have F11 := zF_set F e9 (by unfold zX; omega)
        refine gw_ld rfl rfl ?_
        refine gw_op rfl ?_
        have r12 := z_rng ((ez_I h8 52 11))
        refine z_gI2 (by decide) (zT X10.1 (by decide) rfl) (rfl) ?_
        refine z_C (m := 1) rfl rfl (fun x13 ex13 => ?_)
        refine z_addW (fun x14 ex14 => ?_)
        have rx14 := z_rng x14
        have qx14 := congrArg Int32.toInt ex14
        refine z_pI (zT X10.1 (by decide) rfl) (fun h15 e16 => ?_)
        have X17 := xI_set X10 e16 (xW_of (by decide))
        have F18 := zF_set F11 e16 (by unfold zX; omega)
        have f19 : ez_I h15 52 11 = x14 := zI_eq e16
        refine z_rv ?_
        have t20 := congrArg Int32.toInt f19
        exact K _ F18 X17
  · have c1 : ¬ (b.toInt ≤ 0) := c1
    refine z_gs ?_
    refine gw_ld rfl rfl ?_
    refine z_cl rfl rfl rfl rfl rfl rfl rfl rfl rfl rfl rfl (trivial) ?_
    refine k_kindL X hE (fun x21 k22 => ?_)
    have rx21 := z_rng x21
    refine gw_st rfl rfl rfl ?_
    show ez_gw _ _ _ _ _ _ _ _ [some (.ref 52), some (.int a), some (.int b), some (.int x21), none] _ _ _
    refine z_gs ?_
    refine gw_ld rfl rfl ?_
    refine z_cl rfl rfl rfl rfl rfl rfl rfl rfl rfl rfl rfl (trivial) ?_
    refine k_kindD X hE (fun x23 k24 => ?_)
    have rx23 := z_rng x23
    refine gw_st rfl rfl rfl ?_
    show ez_gw _ _ _ _ _ _ _ _ [some (.ref 52), some (.int a), some (.int b), some (.int x21), some (.int x23)] _ _ _
    refine gw_ld rfl rfl ?_
    refine z_gR (q := 66) (zT X.1 (by decide) rfl) (zRf X.1 (by decide) (by decide) rfl) (by decide) ?_
    refine z_C (m := 257) rfl rfl (fun x25 ex25 => ?_)
    refine gw_ld rfl rfl ?_
    first | refine z_add (by omega) (fun x26 ex26 => ?_) | refine z_addW (fun x26 ex26 => ?_)
    have rx26 := z_rng x26
    refine gw_op rfl ?_
    refine z_ia (n := 286) (zT X.1 (by decide) rfl) (zN X.1 (by decide) rfl) (by omega) ?_
    generalize ex27 : ez_I h 66 x26.toInt.toNat = x27
    have rx27 := z_rng x27
    have qx27 := congrArg Int32.toInt ex27
    refine z_C (m := 1) rfl rfl (fun x28 ex28 => ?_)
    refine z_addW (fun x29 ex29 => ?_)
    have rx29 := z_rng x29
    have qx29 := congrArg Int32.toInt ex29
    refine z_is (n := 286) (zT X.1 (by decide) rfl) (zN X.1 (by decide) rfl) (by omega) (fun h30 e31 => ?_)
    have X32 := xI_set X e31 (xW_of (by decide))
    have F33 := zF_set F e31 (by unfold zX; omega)
    refine gw_ld rfl rfl ?_
    refine z_gR (q := 67) (zT X32.1 (by decide) rfl) (zRf X32.1 (by decide) (by decide) rfl) (by decide) ?_
    refine gw_ld rfl rfl ?_
    refine gw_op rfl ?_
    refine z_ia (n := 30) (zT X32.1 (by decide) rfl) (zN X32.1 (by decide) rfl) (by omega) ?_
    generalize ex34 : ez_I h30 67 x23.toInt.toNat = x34
    have rx34 := z_rng x34
    have qx34 := congrArg Int32.toInt ex34
    refine z_C (m := 1) rfl rfl (fun x35 ex35 => ?_)
    refine z_addW (fun x36 ex36 => ?_)
    have rx36 := z_rng x36
    have qx36 := congrArg Int32.toInt ex36
    refine z_is (n := 30) (zT X32.1 (by decide) rfl) (zN X32.1 (by decide) rfl) (by omega) (fun h37 e38 => ?_)
    have X39 := xI_set X32 e38 (xW_of (by decide))
    have F40 := zF_set F33 e38 (by unfold zX; omega)
    refine gw_ld rfl rfl ?_
    refine gw_op rfl ?_
    have r41 := z_rng ((ez_I h37 52 10))
    refine z_gI2 (by decide) (zT X39.1 (by decide) rfl) (rfl) ?_
    refine z_gs ?_
    refine gw_ld rfl rfl ?_
    refine z_iaE (n := 29) (hE 3) (by omega) ?_
    generalize ex42 : (tz_ar (3 + 1)).getD x21.toInt.toNat 0 = x42
    have rx42 := z_rng x42
    have qx42 := congrArg Int32.toInt ex42
    refine z_gs ?_
    refine gw_ld rfl rfl ?_
    refine z_iaE (n := 30) (hE 4) (by omega) ?_
    generalize ex43 : (tz_ar (4 + 1)).getD x23.toInt.toNat 0 = x43
    have rx43 := z_rng x43
    have qx43 := congrArg Int32.toInt ex43
    refine z_addW (fun x44 ex44 => ?_)
    have rx44 := z_rng x44
    have qx44 := congrArg Int32.toInt ex44
    refine z_addW (fun x45 ex45 => ?_)
    have rx45 := z_rng x45
    have qx45 := congrArg Int32.toInt ex45
    refine z_pI (zT X39.1 (by decide) rfl) (fun h46 e47 => ?_)
    have X48 := xI_set X39 e47 (xW_of (by decide))
    have F49 := zF_set F40 e47 (by unfold zX; omega)
    have f50 : ez_I h46 52 10 = x45 := zI_eq e47
    refine gw_ld rfl rfl ?_
    refine gw_op rfl ?_
    have r51 := z_rng ((ez_I h46 52 11))
    refine z_gI2 (by decide) (zT X48.1 (by decide) rfl) (rfl) ?_
    refine gw_ld rfl rfl ?_
    refine z_addW (fun x52 ex52 => ?_)
    have rx52 := z_rng x52
    have qx52 := congrArg Int32.toInt ex52
    refine z_pI (zT X48.1 (by decide) rfl) (fun h53 e54 => ?_)
    have X55 := xI_set X48 e54 (xW_of (by decide))
    have F56 := zF_set F49 e54 (by unfold zX; omega)
    have f57 : ez_I h53 52 10 = x45 := (zI_ne e54 (by omega)).trans f50
    have f58 : ez_I h53 52 11 = x52 := zI_eq e54
    refine z_go ?_
    refine gw_skip _ ?_
    refine z_rv ?_
    have t59 := congrArg Int32.toInt f57
    have t60 := congrArg Int32.toInt f58
    exact K _ F56 X55
set_option maxRecDepth 4000 in
set_option maxHeartbeats 20000000 in
theorem k_cBlock_L {E : Nat → Nat × (Nat → Int32)} {d : Nat} {Q : ez_Q} {h : ez_H} {a : Int32} {b : Int32} (X : xI h) (hE : zE E) (K : ∀ h2, zF (zX) h h2 → xI h2 → Q (.inl none) h2) : ∀ N : Nat, (∀ (h2 : ez_H) (i : Int32), zF (zX) h h2 → xI h2 → (True) → (2147483647 - i.toInt) < (N : Int) → pw E (d + 2) 116 37 [some (.ref 52), some (.int a), some (.int b), some (.int i)] [] h2 Q) := by
  intro N
  induction N with
  | zero => exact fun h2 i F X2 hinv hm => absurd hm (by have w0 := z_rng i; have w1 := z_rng b; omega)
  | succ N ih =>
    refine fun h2 i F X2 hinv hm => ?_
    · skip
      have w0 := z_rng i
      have w1 := z_rng b
      have ga := z_rng a
      have gb := z_rng b
      apply ez_Wp_in
      show ez_gw _ _ _ _ _ _ (cz_116) _ _ _ _ _
      refine gw_skip _ ?_
      refine gw_ld rfl rfl ?_
      refine gw_ld rfl rfl ?_
      refine z_b2 (fun c1 => ?_) (fun c1 => ?_)
      · have c1 : b.toInt ≤ i.toInt := c1
        refine gw_skip _ ?_
        refine z_rv ?_
        exact K _ F X2
      · have c1 : ¬ (b.toInt ≤ i.toInt) := c1
        refine gw_ld rfl rfl ?_
        refine gw_ld rfl rfl ?_
        refine z_gR (q := 53) (zT X2.1 (by decide) rfl) (zRf X2.1 (by decide) (by decide) rfl) (by decide) ?_
        refine gw_ld rfl rfl ?_
        refine z_cl rfl rfl rfl rfl rfl rfl rfl rfl rfl rfl rfl (zT X2.1 (by decide) rfl) ?_
        refine k_amount X2  (fun x2  => ?_)
        have rx2 := z_rng x2
        refine gw_ld rfl rfl ?_
        refine z_gR (q := 53) (zT X2.1 (by decide) rfl) (zRf X2.1 (by decide) (by decide) rfl) (by decide) ?_
        refine gw_ld rfl rfl ?_
        refine z_cl rfl rfl rfl rfl rfl rfl rfl rfl rfl rfl rfl (zT X2.1 (by decide) rfl) ?_
        refine k_dist X2  (fun x3  => ?_)
        have rx3 := z_rng x3
        refine z_cl rfl rfl rfl rfl rfl rfl rfl rfl rfl rfl rfl (zT X2.1 (by decide) rfl) ?_
        refine k_cPart X2 hE (fun h4 F5 X6  => ?_)
        have F7 := zF_tr F (zF_mono F5 (fun q hq => by first | exact hq | (unfold zX at *; omega) | omega))
        first | (refine z_inc rfl (by rw [show (1 : Int32).toInt = 1 from rfl]; omega) (fun x8 ex8 => ?_); rw [show (1 : Int32).toInt = 1 from rfl] at ex8) | refine z_incW rfl (fun x8 ex8 => ?_)
        have rx8 := z_rng x8
        show ez_gw _ _ _ _ _ _ _ _ [some (.ref 52), some (.int a), some (.int b), some (.int x8)] _ _ _
        refine z_go ?_
        exact ih _ x8 F7 X6 (by first | trivial | omega) (by omega)
set_option maxRecDepth 4000 in
set_option maxHeartbeats 20000000 in
theorem k_cBlock {E : Nat → Nat × (Nat → Int32)} {d : Nat} {Q : ez_Q} {h : ez_H} {a : Int32} {b : Int32} (X : xI h) (hE : zE E) (K : ∀ h2, zF (zX) h h2 → xI h2 → Q (.inl none) h2) : pw E (d + 2) 116 0 [some (.ref 52), some (.int a), some (.int b), none] [] h Q := by
  have ga := z_rng a
  have gb := z_rng b
  have F := zF_refl (zX) h
  apply ez_Wp_in
  show ez_gw _ _ _ _ _ _ (cz_116) _ _ _ _ _
  refine gw_skip _ ?_
  refine gw_ld rfl rfl ?_
  refine z_gR (q := 66) (zT X.1 (by decide) rfl) (zRf X.1 (by decide) (by decide) rfl) (by decide) ?_
  refine z_C (m := 0) rfl rfl (fun x1 ex1 => ?_)
  refine z_cl rfl rfl rfl rfl rfl rfl rfl rfl rfl rfl rfl (trivial) ?_
  refine wp_fill (zT X.1 (by decide) rfl) (by rw [zN X.1 (by decide) rfl]; first | omega | decide) ?_
  generalize e3 : ez_rowI h 66 (pf_fill (ez_I h 66) (ez_l h 66) x1) = h2
  have e3 := e3.symm
  have X4 := xI_row X e3 (by omega)
  have F5 := zF_row F e3 (by unfold zX; omega)
  refine gw_ld rfl rfl ?_
  refine z_gR (q := 67) (zT X4.1 (by decide) rfl) (zRf X4.1 (by decide) (by decide) rfl) (by decide) ?_
  refine z_C (m := 0) rfl rfl (fun x6 ex6 => ?_)
  refine z_cl rfl rfl rfl rfl rfl rfl rfl rfl rfl rfl rfl (trivial) ?_
  refine wp_fill (zT X4.1 (by decide) rfl) (by rw [zN X4.1 (by decide) rfl]; first | omega | decide) ?_
  generalize e8 : ez_rowI h2 67 (pf_fill (ez_I h2 67) (ez_l h2 67) x6) = h7
  have e8 := e8.symm
  have X9 := xI_row X4 e8 (by omega)
  have F10 := zF_row F5 e8 (by unfold zX; omega)
  refine gw_ld rfl rfl ?_
  refine z_gR (q := 66) (zT X9.1 (by decide) rfl) (zRf X9.1 (by decide) (by decide) rfl) (by decide) ?_
  refine z_C (m := 256) rfl rfl (fun x11 ex11 => ?_)
  refine z_C (m := 1) rfl rfl (fun x12 ex12 => ?_)
  refine z_is (n := 286) (zT X9.1 (by decide) rfl) (zN X9.1 (by decide) rfl) (by omega) (fun h13 e14 => ?_)
  have X15 := xI_set X9 e14 (xW_of (by decide))
  have F16 := zF_set F10 e14 (by unfold zX; omega)
  refine gw_ld rfl rfl ?_
  refine z_C (m := 0) rfl rfl (fun x17 ex17 => ?_)
  refine z_pI (zT X15.1 (by decide) rfl) (fun h18 e19 => ?_)
  have X20 := xI_set X15 e19 (xW_of (by decide))
  have F21 := zF_set F16 e19 (by unfold zX; omega)
  have f22 : ez_I h18 52 10 = x17 := zI_eq e19
  refine gw_ld rfl rfl ?_
  refine z_C (m := 0) rfl rfl (fun x23 ex23 => ?_)
  refine z_pI (zT X20.1 (by decide) rfl) (fun h24 e25 => ?_)
  have X26 := xI_set X20 e25 (xW_of (by decide))
  have F27 := zF_set F21 e25 (by unfold zX; omega)
  have f28 : ez_I h24 52 10 = x17 := (zI_ne e25 (by omega)).trans f22
  have f29 : ez_I h24 52 11 = x23 := zI_eq e25
  refine gw_ld rfl rfl ?_
  refine gw_st rfl rfl rfl ?_
  show ez_gw _ _ _ _ _ _ _ _ [some (.ref 52), some (.int a), some (.int b), some (.int a)] _ _ _
  have t30 := congrArg Int32.toInt f28
  have t31 := congrArg Int32.toInt f29
  exact ez_Wp_out ((k_cBlock_L (a := a) (b := b) X hE K (((2147483647 - a.toInt)).toNat + 1)) _ a F27 X26 (by first | trivial | omega) (by omega))
set_option maxRecDepth 4000 in
set_option maxHeartbeats 20000000 in
theorem k_wStored_L {E : Nat → Nat × (Nat → Int32)} {d : Nat} {Q : ez_Q} {h : ez_H} {b : Int32} (X : xI h)  (K : ∀ h2, zF (zX) h h2 → xI h2 → Q (.inl none) h2) : ∀ N : Nat, (∀ (h2 : ez_H) (i : Int32), zF (zX) h h2 → xI h2 → (True) → (2147483647 - i.toInt) < (N : Int) → pw E (d + 3) 120 40 [some (.ref 52), some (.ref 2), some (.int b), some (.int i)] [] h2 Q) := by
  intro N
  induction N with
  | zero => exact fun h2 i F X2 hinv hm => absurd hm (by have w0 := z_rng i; omega)
  | succ N ih =>
    refine fun h2 i F X2 hinv hm => ?_
    · skip
      have w0 := z_rng i
      have gb := z_rng b
      apply ez_Wp_in
      show ez_gw _ _ _ _ _ _ (cz_120) _ _ _ _ _
      refine gw_skip _ ?_
      refine gw_ld rfl rfl ?_
      refine gw_ld rfl rfl ?_
      refine gw_ld rfl rfl ?_
      have r1 := z_rng ((ez_I h2 52 11))
      refine z_gI2 (by decide) (zT X2.1 (by decide) rfl) (rfl) ?_
      first | refine z_add (by omega) (fun x2 ex2 => ?_) | refine z_addW (fun x2 ex2 => ?_)
      have rx2 := z_rng x2
      refine z_b2 (fun c3 => ?_) (fun c3 => ?_)
      · have c3 : x2.toInt ≤ i.toInt := c3
        refine gw_skip _ ?_
        refine z_rv ?_
        exact K _ F X2
      · have c3 : ¬ (x2.toInt ≤ i.toInt) := c3
        refine gw_ld rfl rfl ?_
        refine gw_ld rfl rfl ?_
        refine z_cl rfl rfl rfl rfl rfl rfl rfl rfl rfl rfl rfl (zT X2.1 (by decide) rfl) ?_
        refine k_has X2 (p := 2) (by omega) (fun x4 k5 k6 => ?_)
        have rx4 := z_rng x4
        refine z_b1 (fun c7 => ?_) (fun c7 => ?_)
        · have c7 : x4.toInt = 0 := c7
          refine gw_skip _ ?_
          refine z_rv ?_
          exact K _ F X2
        · have c7 : ¬ (x4.toInt = 0) := c7
          refine gw_ld rfl rfl ?_
          refine z_gR (q := 68) (zT X2.1 (by decide) rfl) (zRf X2.1 (by decide) (by decide) rfl) (by decide) ?_
          refine gw_ld rfl rfl ?_
          refine z_gR (q := 3) (zT X2.1 (by decide) rfl) (zRf X2.1 (by decide) (by decide) rfl) (by decide) ?_
          refine gw_ld rfl rfl ?_
          refine z_ia (n := 6100) (zT X2.1 (by decide) rfl) (zN X2.1 (by decide) rfl) (by omega) ?_
          generalize ex8 : ez_I h2 3 i.toInt.toNat = x8
          have rx8 := z_rng x8
          have qx8 := congrArg Int32.toInt ex8
          refine z_C (m := 8) rfl rfl (fun x9 ex9 => ?_)
          refine z_cl rfl rfl rfl rfl rfl rfl rfl rfl rfl rfl rfl (zT X2.1 (by decide) rfl) ?_
          refine k_putBits X2  (fun h10 F11 X12  => ?_)
          have F13 := zF_tr F (zF_mono F11 (fun q hq => by first | exact hq | (unfold zX at *; omega) | omega))
          have f14 : ez_I h10 52 11 = (ez_I h2 52 11) := zF_I F11 (by omega) (rfl)
          first | (refine z_inc rfl (by rw [show (1 : Int32).toInt = 1 from rfl]; omega) (fun x15 ex15 => ?_); rw [show (1 : Int32).toInt = 1 from rfl] at ex15) | refine z_incW rfl (fun x15 ex15 => ?_)
          have rx15 := z_rng x15
          show ez_gw _ _ _ _ _ _ _ _ [some (.ref 52), some (.ref 2), some (.int b), some (.int x15)] _ _ _
          refine z_go ?_
          have t16 := congrArg Int32.toInt f14
          exact ih _ x15 F13 X12 (by first | trivial | omega) (by omega)
set_option maxRecDepth 4000 in
set_option maxHeartbeats 20000000 in
theorem k_wStored {E : Nat → Nat × (Nat → Int32)} {d : Nat} {Q : ez_Q} {h : ez_H} {b : Int32} (X : xI h)  (K : ∀ h2, zF (zX) h h2 → xI h2 → Q (.inl none) h2) : pw E (d + 3) 120 0 [some (.ref 52), some (.ref 2), some (.int b), none] [] h Q := by
  have gb := z_rng b
  have F := zF_refl (zX) h
  apply ez_Wp_in
  show ez_gw _ _ _ _ _ _ (cz_120) _ _ _ _ _
  refine gw_skip _ ?_
  refine gw_ld rfl rfl ?_
  refine z_gR (q := 68) (zT X.1 (by decide) rfl) (zRf X.1 (by decide) (by decide) rfl) (by decide) ?_
  refine z_cl rfl rfl rfl rfl rfl rfl rfl rfl rfl rfl rfl (zT X.1 (by decide) rfl) ?_
  refine k_fillByte X  (fun h1 F2 X3  => ?_)
  have F4 := zF_tr F (zF_mono F2 (fun q hq => by first | exact hq | (unfold zX at *; omega) | omega))
  refine gw_ld rfl rfl ?_
  refine z_gR (q := 68) (zT X3.1 (by decide) rfl) (zRf X3.1 (by decide) (by decide) rfl) (by decide) ?_
  refine gw_ld rfl rfl ?_
  have r5 := z_rng ((ez_I h1 52 11))
  refine z_gI2 (by decide) (zT X3.1 (by decide) rfl) (rfl) ?_
  refine z_C (m := 16) rfl rfl (fun x6 ex6 => ?_)
  refine z_cl rfl rfl rfl rfl rfl rfl rfl rfl rfl rfl rfl (zT X3.1 (by decide) rfl) ?_
  refine k_putBits X3  (fun h7 F8 X9  => ?_)
  have F10 := zF_tr F4 (zF_mono F8 (fun q hq => by first | exact hq | (unfold zX at *; omega) | omega))
  have f11 : ez_I h7 52 11 = (ez_I h1 52 11) := zF_I F8 (by omega) (rfl)
  refine gw_ld rfl rfl ?_
  refine z_gR (q := 68) (zT X9.1 (by decide) rfl) (zRf X9.1 (by decide) (by decide) rfl) (by decide) ?_
  refine gw_ld rfl rfl ?_
  refine z_gI2 (by decide) (zT X9.1 (by decide) rfl) (f11) ?_
  refine z_C (m := -1) rfl rfl (fun x12 ex12 => ?_)
  refine z_2 rfl (fun x13 ex13 => ?_)
  have rx13 := z_rng x13
  refine z_C (m := 65535) rfl rfl (fun x14 ex14 => ?_)
  refine z_and (fun x15 ex15 ux15 wx15 => ?_)
  have rx15 := z_rng x15
  replace ux15 := ux15 (by omega)
  clear wx15
  refine z_C (m := 16) rfl rfl (fun x16 ex16 => ?_)
  refine z_cl rfl rfl rfl rfl rfl rfl rfl rfl rfl rfl rfl (zT X9.1 (by decide) rfl) ?_
  refine k_putBits X9  (fun h17 F18 X19  => ?_)
  have F20 := zF_tr F10 (zF_mono F18 (fun q hq => by first | exact hq | (unfold zX at *; omega) | omega))
  have f21 : ez_I h17 52 11 = (ez_I h1 52 11) := zF_I F18 (by omega) (f11)
  refine gw_ld rfl rfl ?_
  refine gw_st rfl rfl rfl ?_
  show ez_gw _ _ _ _ _ _ _ _ [some (.ref 52), some (.ref 2), some (.int b), some (.int b)] _ _ _
  have t22 := congrArg Int32.toInt f21
  exact ez_Wp_out ((k_wStored_L (b := b) X K (((2147483647 - b.toInt)).toNat + 1)) _ b F20 X19 (by first | trivial | omega) (by omega))
set_option maxRecDepth 4000 in
set_option maxHeartbeats 20000000 in
theorem k_wParts_L {E : Nat → Nat × (Nat → Int32)} {d : Nat} {Q : ez_Q} {h : ez_H} {a : Int32} {b : Int32} {p : Nat} {q : Nat} (X : xI h) (hE : zE E) (hp : p = 15 ∨ p = 22 ∨ p = 29 ∨ p = 36 ∨ p = 43) (hq : q = 15 ∨ q = 22 ∨ q = 29 ∨ q = 36 ∨ q = 43) (K : ∀ h2, zF (zX) h h2 → xI h2 → Q (.inl none) h2) : ∀ N : Nat, (∀ (h2 : ez_H) (i : Int32) (l6 : Option Value) (l7 : Option Value) (l8 : Option Value) (l9 : Option Value), zF (zX) h h2 → xI h2 → (True) → (2147483647 - i.toInt) < (N : Int) → pw E (d + 3) 121 3 [some (.ref 52), some (.int a), some (.int b), some (.ref p), some (.ref q), some (.int i), l6, l7, l8, l9] [] h2 Q) := by
  intro N
  induction N with
  | zero => exact fun h2 i l6 l7 l8 l9 F X2 hinv hm => absurd hm (by have w0 := z_rng i; omega)
  | succ N ih =>
    refine fun h2 i l6 l7 l8 l9 F X2 hinv hm => ?_
    · skip
      have w0 := z_rng i
      have ga := z_rng a
      have gb := z_rng b
      apply ez_Wp_in
      show ez_gw _ _ _ _ _ _ (cz_121) _ _ _ _ _
      refine gw_skip _ ?_
      refine gw_ld rfl rfl ?_
      refine gw_ld rfl rfl ?_
      refine z_b2 (fun c1 => ?_) (fun c1 => ?_)
      · have c1 : b.toInt ≤ i.toInt := c1
        refine gw_skip _ ?_
        refine gw_ld rfl rfl ?_
        refine z_gR (q := 68) (zT X2.1 (by decide) rfl) (zRf X2.1 (by decide) (by decide) rfl) (by decide) ?_
        refine gw_ld rfl rfl ?_
        refine z_C (m := 256) rfl rfl (fun x2 ex2 => ?_)
        refine z_cl rfl rfl rfl rfl rfl rfl rfl rfl rfl rfl rfl (zT X2.1 (by decide) rfl) ?_
        refine k_putSymbol X2 (p := p) (by omega) (fun h3 F4 X5  => ?_)
        have F6 := zF_tr F (zF_mono F4 (fun q hq => by first | exact hq | (unfold zX at *; omega) | omega))
        refine z_rv ?_
        exact K _ F6 X5
      · have c1 : ¬ (b.toInt ≤ i.toInt) := c1
        refine gw_ld rfl rfl ?_
        refine z_gR (q := 53) (zT X2.1 (by decide) rfl) (zRf X2.1 (by decide) (by decide) rfl) (by decide) ?_
        refine gw_ld rfl rfl ?_
        refine z_cl rfl rfl rfl rfl rfl rfl rfl rfl rfl rfl rfl (zT X2.1 (by decide) rfl) ?_
        refine k_amount X2  (fun x7  => ?_)
        have rx7 := z_rng x7
        refine gw_st rfl rfl rfl ?_
        show ez_gw _ _ _ _ _ _ _ _ [some (.ref 52), some (.int a), some (.int b), some (.ref p), some (.ref q), some (.int i), some (.int x7), l7, l8, l9] _ _ _
        refine gw_ld rfl rfl ?_
        refine z_gR (q := 53) (zT X2.1 (by decide) rfl) (zRf X2.1 (by decide) (by decide) rfl) (by decide) ?_
        refine gw_ld rfl rfl ?_
        refine z_cl rfl rfl rfl rfl rfl rfl rfl rfl rfl rfl rfl (zT X2.1 (by decide) rfl) ?_
        refine k_dist X2  (fun x8  => ?_)
        have rx8 := z_rng x8
        refine gw_st rfl rfl rfl ?_
        show ez_gw _ _ _ _ _ _ _ _ [some (.ref 52), some (.int a), some (.int b), some (.ref p), some (.ref q), some (.int i), some (.int x7), some (.int x8), l8, l9] _ _ _
        refine gw_ld rfl rfl ?_
        refine z_b1 (fun c9 => ?_) (fun c9 => ?_)
        · have c9 : x8.toInt ≤ 0 := c9
          refine gw_skip _ ?_
          refine gw_ld rfl rfl ?_
          refine z_gR (q := 68) (zT X2.1 (by decide) rfl) (zRf X2.1 (by decide) (by decide) rfl) (by decide) ?_
          refine gw_ld rfl rfl ?_
          refine gw_ld rfl rfl ?_
          refine z_cl rfl rfl rfl rfl rfl rfl rfl rfl rfl rfl rfl (zT X2.1 (by decide) rfl) ?_
          refine k_putSymbol X2 (p := p) (by omega) (fun h10 F11 X12  => ?_)
          have F13 := zF_tr F (zF_mono F11 (fun q hq => by first | exact hq | (unfold zX at *; omega) | omega))
          first | (refine z_inc rfl (by rw [show (1 : Int32).toInt = 1 from rfl]; omega) (fun x14 ex14 => ?_); rw [show (1 : Int32).toInt = 1 from rfl] at ex14) | refine z_incW rfl (fun x14 ex14 => ?_)
          have rx14 := z_rng x14
          show ez_gw _ _ _ _ _ _ _ _ [some (.ref 52), some (.int a), some (.int b), some (.ref p), some (.ref q), some (.int x14), some (.int x7), some (.int x8), l8, l9] _ _ _
          refine z_go ?_
          exact ih _ x14 (some (.int x7)) (some (.int x8)) (l8) (l9) F13 X12 (by first | trivial | omega) (by omega)
        · have c9 : ¬ (x8.toInt ≤ 0) := c9
          refine z_gs ?_
          refine gw_ld rfl rfl ?_
          refine z_cl rfl rfl rfl rfl rfl rfl rfl rfl rfl rfl rfl (trivial) ?_
          refine k_kindL X2 hE (fun x15 k16 => ?_)
          have rx15 := z_rng x15
          refine gw_st rfl rfl rfl ?_
          show ez_gw _ _ _ _ _ _ _ _ [some (.ref 52), some (.int a), some (.int b), some (.ref p), some (.ref q), some (.int i), some (.int x7), some (.int x8), some (.int x15), l9] _ _ _
          refine z_gs ?_
          refine gw_ld rfl rfl ?_
          refine z_cl rfl rfl rfl rfl rfl rfl rfl rfl rfl rfl rfl (trivial) ?_
          refine k_kindD X2 hE (fun x17 k18 => ?_)
          have rx17 := z_rng x17
          refine gw_st rfl rfl rfl ?_
          show ez_gw _ _ _ _ _ _ _ _ [some (.ref 52), some (.int a), some (.int b), some (.ref p), some (.ref q), some (.int i), some (.int x7), some (.int x8), some (.int x15), some (.int x17)] _ _ _
          refine gw_ld rfl rfl ?_
          refine z_gR (q := 68) (zT X2.1 (by decide) rfl) (zRf X2.1 (by decide) (by decide) rfl) (by decide) ?_
          refine gw_ld rfl rfl ?_
          refine z_C (m := 257) rfl rfl (fun x19 ex19 => ?_)
          refine gw_ld rfl rfl ?_
          first | refine z_add (by omega) (fun x20 ex20 => ?_) | refine z_addW (fun x20 ex20 => ?_)
          have rx20 := z_rng x20
          refine z_cl rfl rfl rfl rfl rfl rfl rfl rfl rfl rfl rfl (zT X2.1 (by decide) rfl) ?_
          refine k_putSymbol X2 (p := p) (by omega) (fun h21 F22 X23  => ?_)
          have F24 := zF_tr F (zF_mono F22 (fun q hq => by first | exact hq | (unfold zX at *; omega) | omega))
          refine gw_ld rfl rfl ?_
          refine z_gR (q := 68) (zT X23.1 (by decide) rfl) (zRf X23.1 (by decide) (by decide) rfl) (by decide) ?_
          refine gw_ld rfl rfl ?_
          refine z_gs ?_
          refine gw_ld rfl rfl ?_
          refine z_iaE (n := 29) (hE 1) (by omega) ?_
          generalize ex25 : (tz_ar (1 + 1)).getD x15.toInt.toNat 0 = x25
          have rx25 := z_rng x25
          have qx25 := congrArg Int32.toInt ex25
          refine z_subW (fun x26 ex26 => ?_)
          have rx26 := z_rng x26
          have qx26 := congrArg Int32.toInt ex26
          refine z_gs ?_
          refine gw_ld rfl rfl ?_
          refine z_iaE (n := 29) (hE 3) (by omega) ?_
          generalize ex27 : (tz_ar (3 + 1)).getD x15.toInt.toNat 0 = x27
          have rx27 := z_rng x27
          have qx27 := congrArg Int32.toInt ex27
          refine z_cl rfl rfl rfl rfl rfl rfl rfl rfl rfl rfl rfl (zT X23.1 (by decide) rfl) ?_
          refine k_putBits X23  (fun h28 F29 X30  => ?_)
          have F31 := zF_tr F24 (zF_mono F29 (fun q hq => by first | exact hq | (unfold zX at *; omega) | omega))
          refine gw_ld rfl rfl ?_
          refine z_gR (q := 68) (zT X30.1 (by decide) rfl) (zRf X30.1 (by decide) (by decide) rfl) (by decide) ?_
          refine gw_ld rfl rfl ?_
          refine gw_ld rfl rfl ?_
          refine z_cl rfl rfl rfl rfl rfl rfl rfl rfl rfl rfl rfl (zT X30.1 (by decide) rfl) ?_
          refine k_putSymbol X30 (p := q) (by omega) (fun h32 F33 X34  => ?_)
          have F35 := zF_tr F31 (zF_mono F33 (fun q hq => by first | exact hq | (unfold zX at *; omega) | omega))
          refine gw_ld rfl rfl ?_
          refine z_gR (q := 68) (zT X34.1 (by decide) rfl) (zRf X34.1 (by decide) (by decide) rfl) (by decide) ?_
          refine gw_ld rfl rfl ?_
          refine z_gs ?_
          refine gw_ld rfl rfl ?_
          refine z_iaE (n := 30) (hE 2) (by omega) ?_
          generalize ex36 : (tz_ar (2 + 1)).getD x17.toInt.toNat 0 = x36
          have rx36 := z_rng x36
          have qx36 := congrArg Int32.toInt ex36
          refine z_subW (fun x37 ex37 => ?_)
          have rx37 := z_rng x37
          have qx37 := congrArg Int32.toInt ex37
          refine z_gs ?_
          refine gw_ld rfl rfl ?_
          refine z_iaE (n := 30) (hE 4) (by omega) ?_
          generalize ex38 : (tz_ar (4 + 1)).getD x17.toInt.toNat 0 = x38
          have rx38 := z_rng x38
          have qx38 := congrArg Int32.toInt ex38
          refine z_cl rfl rfl rfl rfl rfl rfl rfl rfl rfl rfl rfl (zT X34.1 (by decide) rfl) ?_
          refine k_putBits X34  (fun h39 F40 X41  => ?_)
          have F42 := zF_tr F35 (zF_mono F40 (fun q hq => by first | exact hq | (unfold zX at *; omega) | omega))
          refine z_go ?_
          refine gw_skip _ ?_
          first | (refine z_inc rfl (by rw [show (1 : Int32).toInt = 1 from rfl]; omega) (fun x43 ex43 => ?_); rw [show (1 : Int32).toInt = 1 from rfl] at ex43) | refine z_incW rfl (fun x43 ex43 => ?_)
          have rx43 := z_rng x43
          show ez_gw _ _ _ _ _ _ _ _ [some (.ref 52), some (.int a), some (.int b), some (.ref p), some (.ref q), some (.int x43), some (.int x7), some (.int x8), some (.int x15), some (.int x17)] _ _ _
          refine z_go ?_
          exact ih _ x43 (some (.int x7)) (some (.int x8)) (some (.int x15)) (some (.int x17)) F42 X41 (by first | trivial | omega) (by omega)
set_option maxRecDepth 4000 in
set_option maxHeartbeats 20000000 in
theorem k_wParts {E : Nat → Nat × (Nat → Int32)} {d : Nat} {Q : ez_Q} {h : ez_H} {a : Int32} {b : Int32} {p : Nat} {q : Nat} (X : xI h) (hE : zE E) (hp : p = 15 ∨ p = 22 ∨ p = 29 ∨ p = 36 ∨ p = 43) (hq : q = 15 ∨ q = 22 ∨ q = 29 ∨ q = 36 ∨ q = 43) (K : ∀ h2, zF (zX) h h2 → xI h2 → Q (.inl none) h2) : pw E (d + 3) 121 0 [some (.ref 52), some (.int a), some (.int b), some (.ref p), some (.ref q), none, none, none, none, none] [] h Q := by
  have ga := z_rng a
  have gb := z_rng b
  have F := zF_refl (zX) h
  apply ez_Wp_in
  show ez_gw _ _ _ _ _ _ (cz_121) _ _ _ _ _
  refine gw_skip _ ?_
  refine gw_ld rfl rfl ?_
  refine gw_st rfl rfl rfl ?_
  show ez_gw _ _ _ _ _ _ _ _ [some (.ref 52), some (.int a), some (.int b), some (.ref p), some (.ref q), some (.int a), none, none, none, none] _ _ _
  exact ez_Wp_out ((k_wParts_L (a := a) (b := b) X hE hp hq K (((2147483647 - a.toInt)).toNat + 1)) _ a (none) (none) (none) (none) F X (by first | trivial | omega) (by omega))
set_option maxRecDepth 4000 in
set_option maxHeartbeats 20000000 in
theorem k_ways {E : Nat → Nat × (Nat → Int32)} {d : Nat} {Q : ez_Q} {h : ez_H} {k : Int32} (X : xI h) (hE : zE E) (K : ∀ h2, zF (zX) h h2 → xI h2 → Q (.inl none) h2) : pw E (d + 4) 118 0 [some (.ref 52), some (.int k), none, none, none, none, none, none] [] h Q := by
  have gk := z_rng k
  have F := zF_refl (zX) h
  apply ez_Wp_in
  show ez_gw _ _ _ _ _ _ (cz_118) _ _ _ _ _
  refine gw_skip _ ?_
  refine gw_ld rfl rfl ?_
  refine z_gR (q := 9) (zT X.1 (by decide) rfl) (zRf X.1 (by decide) (by decide) rfl) (by decide) ?_
  refine gw_ld rfl rfl ?_
  refine z_gR (q := 66) (zT X.1 (by decide) rfl) (zRf X.1 (by decide) (by decide) rfl) (by decide) ?_
  refine z_C (m := 286) rfl rfl (fun x1 ex1 => ?_)
  refine z_C (m := 15) rfl rfl (fun x2 ex2 => ?_)
  refine gw_ld rfl rfl ?_
  refine z_gR (q := 14) (zT X.1 (by decide) rfl) (zRf X.1 (by decide) (by decide) rfl) (by decide) ?_
  refine z_gR (q := 29) (zT X.1 (by decide) rfl) (zRf X.1 (by decide) (by decide) rfl) (by decide) ?_
  refine z_gR (q := 30) (zT X.1 (by decide) rfl) (zRf X.1 (by decide) (by decide) rfl) (by decide) ?_
  refine z_cl rfl rfl rfl rfl rfl rfl rfl rfl rfl rfl rfl (zT X.1 (by decide) rfl) ?_
  refine k_make X hE (show zA 66 286 from fun _ S => ⟨zT S (by decide) rfl, zN S (by decide) rfl⟩) (by omega) (show zA 30 288 from fun _ S => ⟨zT S (by decide) rfl, zN S (by decide) rfl⟩) (by omega) (by omega) (by omega) (fun h3 F4 X5  => ?_)
  have F6 := zF_tr F (zF_mono F4 (fun q hq => by first | exact hq | (unfold zX at *; omega) | omega))
  refine gw_ld rfl rfl ?_
  refine z_gR (q := 9) (zT X5.1 (by decide) rfl) (zRf X5.1 (by decide) (by decide) rfl) (by decide) ?_
  refine gw_ld rfl rfl ?_
  refine z_gR (q := 67) (zT X5.1 (by decide) rfl) (zRf X5.1 (by decide) (by decide) rfl) (by decide) ?_
  refine z_C (m := 30) rfl rfl (fun x7 ex7 => ?_)
  refine z_C (m := 15) rfl rfl (fun x8 ex8 => ?_)
  refine gw_ld rfl rfl ?_
  refine z_gR (q := 14) (zT X5.1 (by decide) rfl) (zRf X5.1 (by decide) (by decide) rfl) (by decide) ?_
  refine z_gR (q := 36) (zT X5.1 (by decide) rfl) (zRf X5.1 (by decide) (by decide) rfl) (by decide) ?_
  refine z_gR (q := 37) (zT X5.1 (by decide) rfl) (zRf X5.1 (by decide) (by decide) rfl) (by decide) ?_
  refine z_cl rfl rfl rfl rfl rfl rfl rfl rfl rfl rfl rfl (zT X5.1 (by decide) rfl) ?_
  refine k_make X5 hE (show zA 67 30 from fun _ S => ⟨zT S (by decide) rfl, zN S (by decide) rfl⟩) (by omega) (show zA 37 288 from fun _ S => ⟨zT S (by decide) rfl, zN S (by decide) rfl⟩) (by omega) (by omega) (by omega) (fun h9 F10 X11  => ?_)
  have F12 := zF_tr F6 (zF_mono F10 (fun q hq => by first | exact hq | (unfold zX at *; omega) | omega))
  refine gw_ld rfl rfl ?_
  refine z_gR (q := 67) (zT X11.1 (by decide) rfl) (zRf X11.1 (by decide) (by decide) rfl) (by decide) ?_
  refine gw_ld rfl rfl ?_
  refine z_gR (q := 14) (zT X11.1 (by decide) rfl) (zRf X11.1 (by decide) (by decide) rfl) (by decide) ?_
  refine z_gR (q := 36) (zT X11.1 (by decide) rfl) (zRf X11.1 (by decide) (by decide) rfl) (by decide) ?_
  refine z_gR (q := 37) (zT X11.1 (by decide) rfl) (zRf X11.1 (by decide) (by decide) rfl) (by decide) ?_
  refine z_C (m := 30) rfl rfl (fun x13 ex13 => ?_)
  refine z_cl rfl rfl rfl rfl rfl rfl rfl rfl rfl rfl rfl (trivial) ?_
  refine k_wsum X11 (show zA 67 30 from fun _ S => ⟨zT S (by decide) rfl, zN S (by decide) rfl⟩) (show zA 37 288 from fun _ S => ⟨zT S (by decide) rfl, zN S (by decide) rfl⟩) (by decide) (fun x14  => ?_)
  have rx14 := z_rng x14
  refine gw_st rfl rfl rfl ?_
  show ez_gw _ _ _ _ _ _ _ _ [some (.ref 52), some (.int k), some (.int x14), none, none, none, none, none] _ _ _
  refine gw_ld rfl rfl ?_
  refine z_b1 (fun c15 => ?_) (fun c15 => ?_)
  · have c15 : x14.toInt ≠ 0 := c15
    refine gw_skip _ ?_
    refine gw_ld rfl rfl ?_
    refine z_gR (q := 61) (zT X11.1 (by decide) rfl) (zRf X11.1 (by decide) (by decide) rfl) (by decide) ?_
    refine gw_ld rfl rfl ?_
    refine z_gR (q := 14) (zT X11.1 (by decide) rfl) (zRf X11.1 (by decide) (by decide) rfl) (by decide) ?_
    refine gw_ld rfl rfl ?_
    refine z_gR (q := 9) (zT X11.1 (by decide) rfl) (zRf X11.1 (by decide) (by decide) rfl) (by decide) ?_
    refine z_cl rfl rfl rfl rfl rfl rfl rfl rfl rfl rfl rfl (zT X11.1 (by decide) rfl) ?_
    refine k_plan X11 hE (fun h16 x19 F17 X18  => ?_)
    have rx19 := z_rng x19
    have F20 := zF_tr F12 (zF_mono F17 (fun q hq => by first | exact hq | (unfold zX at *; omega) | omega))
    refine gw_st rfl rfl rfl ?_
    show ez_gw _ _ _ _ _ _ _ _ [some (.ref 52), some (.int k), some (.int x14), some (.int x19), none, none, none, none] _ _ _
    refine z_C (m := 3) rfl rfl (fun x21 ex21 => ?_)
    refine gw_ld rfl rfl ?_
    refine z_addW (fun x22 ex22 => ?_)
    have rx22 := z_rng x22
    have qx22 := congrArg Int32.toInt ex22
    refine gw_ld rfl rfl ?_
    have r23 := z_rng ((ez_I h16 52 10))
    refine z_gI2 (by decide) (zT X18.1 (by decide) rfl) (rfl) ?_
    refine z_addW (fun x24 ex24 => ?_)
    have rx24 := z_rng x24
    have qx24 := congrArg Int32.toInt ex24
    refine gw_ld rfl rfl ?_
    refine z_addW (fun x25 ex25 => ?_)
    have rx25 := z_rng x25
    have qx25 := congrArg Int32.toInt ex25
    refine gw_ld rfl rfl ?_
    refine z_gR (q := 66) (zT X18.1 (by decide) rfl) (zRf X18.1 (by decide) (by decide) rfl) (by decide) ?_
    refine gw_ld rfl rfl ?_
    refine z_gR (q := 14) (zT X18.1 (by decide) rfl) (zRf X18.1 (by decide) (by decide) rfl) (by decide) ?_
    refine z_gR (q := 29) (zT X18.1 (by decide) rfl) (zRf X18.1 (by decide) (by decide) rfl) (by decide) ?_
    refine z_gR (q := 30) (zT X18.1 (by decide) rfl) (zRf X18.1 (by decide) (by decide) rfl) (by decide) ?_
    refine z_C (m := 286) rfl rfl (fun x26 ex26 => ?_)
    refine z_cl rfl rfl rfl rfl rfl rfl rfl rfl rfl rfl rfl (trivial) ?_
    refine k_wsum X18 (show zA 66 286 from fun _ S => ⟨zT S (by decide) rfl, zN S (by decide) rfl⟩) (show zA 30 288 from fun _ S => ⟨zT S (by decide) rfl, zN S (by decide) rfl⟩) (by decide) (fun x27  => ?_)
    have rx27 := z_rng x27
    refine z_addW (fun x28 ex28 => ?_)
    have rx28 := z_rng x28
    have qx28 := congrArg Int32.toInt ex28
    refine gw_st rfl rfl rfl ?_
    show ez_gw _ _ _ _ _ _ _ _ [some (.ref 52), some (.int k), some (.int x14), some (.int x19), some (.int x28), none, none, none] _ _ _
    refine z_C (m := 3) rfl rfl (fun x29 ex29 => ?_)
    refine gw_ld rfl rfl ?_
    refine z_gI2 (by decide) (zT X18.1 (by decide) rfl) (rfl) ?_
    refine z_addW (fun x30 ex30 => ?_)
    have rx30 := z_rng x30
    have qx30 := congrArg Int32.toInt ex30
    refine gw_ld rfl rfl ?_
    refine z_gR (q := 66) (zT X18.1 (by decide) rfl) (zRf X18.1 (by decide) (by decide) rfl) (by decide) ?_
    refine gw_ld rfl rfl ?_
    refine z_gR (q := 14) (zT X18.1 (by decide) rfl) (zRf X18.1 (by decide) (by decide) rfl) (by decide) ?_
    refine z_gR (q := 15) (zT X18.1 (by decide) rfl) (zRf X18.1 (by decide) (by decide) rfl) (by decide) ?_
    refine z_gR (q := 16) (zT X18.1 (by decide) rfl) (zRf X18.1 (by decide) (by decide) rfl) (by decide) ?_
    refine z_C (m := 286) rfl rfl (fun x31 ex31 => ?_)
    refine z_cl rfl rfl rfl rfl rfl rfl rfl rfl rfl rfl rfl (trivial) ?_
    refine k_wsum X18 (show zA 66 286 from fun _ S => ⟨zT S (by decide) rfl, zN S (by decide) rfl⟩) (show zA 16 288 from fun _ S => ⟨zT S (by decide) rfl, zN S (by decide) rfl⟩) (by decide) (fun x32  => ?_)
    have rx32 := z_rng x32
    refine z_addW (fun x33 ex33 => ?_)
    have rx33 := z_rng x33
    have qx33 := congrArg Int32.toInt ex33
    refine gw_ld rfl rfl ?_
    refine z_gR (q := 67) (zT X18.1 (by decide) rfl) (zRf X18.1 (by decide) (by decide) rfl) (by decide) ?_
    refine gw_ld rfl rfl ?_
    refine z_gR (q := 14) (zT X18.1 (by decide) rfl) (zRf X18.1 (by decide) (by decide) rfl) (by decide) ?_
    refine z_gR (q := 22) (zT X18.1 (by decide) rfl) (zRf X18.1 (by decide) (by decide) rfl) (by decide) ?_
    refine z_gR (q := 23) (zT X18.1 (by decide) rfl) (zRf X18.1 (by decide) (by decide) rfl) (by decide) ?_
    refine z_C (m := 30) rfl rfl (fun x34 ex34 => ?_)
    refine z_cl rfl rfl rfl rfl rfl rfl rfl rfl rfl rfl rfl (trivial) ?_
    refine k_wsum X18 (show zA 67 30 from fun _ S => ⟨zT S (by decide) rfl, zN S (by decide) rfl⟩) (show zA 23 288 from fun _ S => ⟨zT S (by decide) rfl, zN S (by decide) rfl⟩) (by decide) (fun x35  => ?_)
    have rx35 := z_rng x35
    refine z_addW (fun x36 ex36 => ?_)
    have rx36 := z_rng x36
    have qx36 := congrArg Int32.toInt ex36
    refine gw_st rfl rfl rfl ?_
    show ez_gw _ _ _ _ _ _ _ _ [some (.ref 52), some (.int k), some (.int x14), some (.int x19), some (.int x28), some (.int x36), none, none] _ _ _
    refine z_C (m := 3) rfl rfl (fun x37 ex37 => ?_)
    refine gw_ld rfl rfl ?_
    refine z_gR (q := 68) (zT X18.1 (by decide) rfl) (zRf X18.1 (by decide) (by decide) rfl) (by decide) ?_
    refine z_C (m := 3) rfl rfl (fun x38 ex38 => ?_)
    refine z_cl rfl rfl rfl rfl rfl rfl rfl rfl rfl rfl rfl (zT X18.1 (by decide) rfl) ?_
    refine k_missing X18  (fun x39 k40 => ?_)
    have rx39 := z_rng x39
    refine z_addW (fun x41 ex41 => ?_)
    have rx41 := z_rng x41
    have qx41 := congrArg Int32.toInt ex41
    refine z_C (m := 32) rfl rfl (fun x42 ex42 => ?_)
    refine z_addW (fun x43 ex43 => ?_)
    have rx43 := z_rng x43
    have qx43 := congrArg Int32.toInt ex43
    refine z_C (m := 8) rfl rfl (fun x44 ex44 => ?_)
    refine gw_ld rfl rfl ?_
    have r45 := z_rng ((ez_I h16 52 11))
    refine z_gI2 (by decide) (zT X18.1 (by decide) rfl) (rfl) ?_
    refine z_mulW (fun x46 ex46 => ?_)
    have rx46 := z_rng x46
    have qx46 := congrArg Int32.toInt ex46
    refine z_addW (fun x47 ex47 => ?_)
    have rx47 := z_rng x47
    have qx47 := congrArg Int32.toInt ex47
    refine gw_st rfl rfl rfl ?_
    show ez_gw _ _ _ _ _ _ _ _ [some (.ref 52), some (.int k), some (.int x14), some (.int x19), some (.int x28), some (.int x36), some (.int x47), none] _ _ _
    refine gw_ld rfl rfl ?_
    refine gw_ld rfl rfl ?_
    refine gw_ld rfl rfl ?_
    refine z_min rfl (fun x48 ex48 => ?_)
    refine z_min rfl (fun x49 ex49 => ?_)
    refine gw_st rfl rfl rfl ?_
    show ez_gw _ _ _ _ _ _ _ _ [some (.ref 52), some (.int k), some (.int x14), some (.int x19), some (.int x28), some (.int x36), some (.int x47), some (.int x49)] _ _ _
    refine gw_ld rfl rfl ?_
    refine z_gR (q := 55) (zT X18.1 (by decide) rfl) (zRf X18.1 (by decide) (by decide) rfl) (by decide) ?_
    refine gw_ld rfl rfl ?_
    refine z_C (m := 0) rfl rfl (fun x50 ex50 => ?_)
    refine gw_ld rfl rfl ?_
    refine gw_ld rfl rfl ?_
    refine z_b2 (fun c51 => ?_) (fun c51 => ?_)
    · have c51 : x49.toInt ≠ x47.toInt := c51
      refine gw_skip _ ?_
      refine gw_ld rfl rfl ?_
      refine gw_ld rfl rfl ?_
      refine z_b2 (fun c52 => ?_) (fun c52 => ?_)
      · have c52 : x49.toInt ≠ x36.toInt := c52
        refine gw_skip _ ?_
        refine z_C (m := 2) rfl rfl (fun x53 ex53 => ?_)
        refine z_cl rfl rfl rfl rfl rfl rfl rfl rfl rfl rfl rfl (zT X18.1 (by decide) rfl) ?_
        refine k_note X18  (fun h54 F55 X56  => ?_)
        have F57 := zF_tr F20 (zF_mono F55 (fun q hq => by first | exact hq | (unfold zX at *; omega) | omega))
        have f58 : ez_I h54 52 10 = (ez_I h16 52 10) := zF_I F55 (by omega) (rfl)
        have f59 : ez_I h54 52 11 = (ez_I h16 52 11) := zF_I F55 (by omega) (rfl)
        refine gw_ld rfl rfl ?_
        refine z_gR (q := 55) (zT X56.1 (by decide) rfl) (zRf X56.1 (by decide) (by decide) rfl) (by decide) ?_
        refine gw_ld rfl rfl ?_
        refine z_C (m := 2) rfl rfl (fun x60 ex60 => ?_)
        refine gw_ld rfl rfl ?_
        refine z_gI2 (by decide) (zT X56.1 (by decide) rfl) (f59) ?_
        refine z_cl rfl rfl rfl rfl rfl rfl rfl rfl rfl rfl rfl (zT X56.1 (by decide) rfl) ?_
        refine k_note X56  (fun h61 F62 X63  => ?_)
        have F64 := zF_tr F57 (zF_mono F62 (fun q hq => by first | exact hq | (unfold zX at *; omega) | omega))
        have f65 : ez_I h61 52 10 = (ez_I h16 52 10) := zF_I F62 (by omega) (f58)
        have f66 : ez_I h61 52 11 = (ez_I h16 52 11) := zF_I F62 (by omega) (f59)
        refine gw_ld rfl rfl ?_
        refine z_gR (q := 55) (zT X63.1 (by decide) rfl) (zRf X63.1 (by decide) (by decide) rfl) (by decide) ?_
        refine gw_ld rfl rfl ?_
        refine z_C (m := 3) rfl rfl (fun x67 ex67 => ?_)
        refine gw_ld rfl rfl ?_
        refine z_cl rfl rfl rfl rfl rfl rfl rfl rfl rfl rfl rfl (zT X63.1 (by decide) rfl) ?_
        refine k_note X63  (fun h68 F69 X70  => ?_)
        have F71 := zF_tr F64 (zF_mono F69 (fun q hq => by first | exact hq | (unfold zX at *; omega) | omega))
        have f72 : ez_I h68 52 10 = (ez_I h16 52 10) := zF_I F69 (by omega) (f65)
        have f73 : ez_I h68 52 11 = (ez_I h16 52 11) := zF_I F69 (by omega) (f66)
        refine gw_ld rfl rfl ?_
        refine z_gR (q := 55) (zT X70.1 (by decide) rfl) (zRf X70.1 (by decide) (by decide) rfl) (by decide) ?_
        refine gw_ld rfl rfl ?_
        refine z_C (m := 4) rfl rfl (fun x74 ex74 => ?_)
        refine gw_ld rfl rfl ?_
        refine z_cl rfl rfl rfl rfl rfl rfl rfl rfl rfl rfl rfl (zT X70.1 (by decide) rfl) ?_
        refine k_note X70  (fun h75 F76 X77  => ?_)
        have F78 := zF_tr F71 (zF_mono F76 (fun q hq => by first | exact hq | (unfold zX at *; omega) | omega))
        have f79 : ez_I h75 52 10 = (ez_I h16 52 10) := zF_I F76 (by omega) (f72)
        have f80 : ez_I h75 52 11 = (ez_I h16 52 11) := zF_I F76 (by omega) (f73)
        refine gw_ld rfl rfl ?_
        refine z_gR (q := 55) (zT X77.1 (by decide) rfl) (zRf X77.1 (by decide) (by decide) rfl) (by decide) ?_
        refine gw_ld rfl rfl ?_
        refine z_C (m := 5) rfl rfl (fun x81 ex81 => ?_)
        refine gw_ld rfl rfl ?_
        refine z_cl rfl rfl rfl rfl rfl rfl rfl rfl rfl rfl rfl (zT X77.1 (by decide) rfl) ?_
        refine k_note X77  (fun h82 F83 X84  => ?_)
        have F85 := zF_tr F78 (zF_mono F83 (fun q hq => by first | exact hq | (unfold zX at *; omega) | omega))
        have f86 : ez_I h82 52 10 = (ez_I h16 52 10) := zF_I F83 (by omega) (f79)
        have f87 : ez_I h82 52 11 = (ez_I h16 52 11) := zF_I F83 (by omega) (f80)
        refine z_rv ?_
        have t88 := congrArg Int32.toInt f86
        have t89 := congrArg Int32.toInt f87
        exact K _ F85 X84
      · have c52 : ¬ (x49.toInt ≠ x36.toInt) := c52
        refine z_C (m := 1) rfl rfl (fun x90 ex90 => ?_)
        refine z_go ?_
        refine gw_skip _ ?_
        refine z_cl rfl rfl rfl rfl rfl rfl rfl rfl rfl rfl rfl (zT X18.1 (by decide) rfl) ?_
        refine k_note X18  (fun h91 F92 X93  => ?_)
        have F94 := zF_tr F20 (zF_mono F92 (fun q hq => by first | exact hq | (unfold zX at *; omega) | omega))
        have f95 : ez_I h91 52 10 = (ez_I h16 52 10) := zF_I F92 (by omega) (rfl)
        have f96 : ez_I h91 52 11 = (ez_I h16 52 11) := zF_I F92 (by omega) (rfl)
        refine gw_ld rfl rfl ?_
        refine z_gR (q := 55) (zT X93.1 (by decide) rfl) (zRf X93.1 (by decide) (by decide) rfl) (by decide) ?_
        refine gw_ld rfl rfl ?_
        refine z_C (m := 2) rfl rfl (fun x97 ex97 => ?_)
        refine gw_ld rfl rfl ?_
        refine z_gI2 (by decide) (zT X93.1 (by decide) rfl) (f96) ?_
        refine z_cl rfl rfl rfl rfl rfl rfl rfl rfl rfl rfl rfl (zT X93.1 (by decide) rfl) ?_
        refine k_note X93  (fun h98 F99 X100  => ?_)
        have F101 := zF_tr F94 (zF_mono F99 (fun q hq => by first | exact hq | (unfold zX at *; omega) | omega))
        have f102 : ez_I h98 52 10 = (ez_I h16 52 10) := zF_I F99 (by omega) (f95)
        have f103 : ez_I h98 52 11 = (ez_I h16 52 11) := zF_I F99 (by omega) (f96)
        refine gw_ld rfl rfl ?_
        refine z_gR (q := 55) (zT X100.1 (by decide) rfl) (zRf X100.1 (by decide) (by decide) rfl) (by decide) ?_
        refine gw_ld rfl rfl ?_
        refine z_C (m := 3) rfl rfl (fun x104 ex104 => ?_)
        refine gw_ld rfl rfl ?_
        refine z_cl rfl rfl rfl rfl rfl rfl rfl rfl rfl rfl rfl (zT X100.1 (by decide) rfl) ?_
        refine k_note X100  (fun h105 F106 X107  => ?_)
        have F108 := zF_tr F101 (zF_mono F106 (fun q hq => by first | exact hq | (unfold zX at *; omega) | omega))
        have f109 : ez_I h105 52 10 = (ez_I h16 52 10) := zF_I F106 (by omega) (f102)
        have f110 : ez_I h105 52 11 = (ez_I h16 52 11) := zF_I F106 (by omega) (f103)
        refine gw_ld rfl rfl ?_
        refine z_gR (q := 55) (zT X107.1 (by decide) rfl) (zRf X107.1 (by decide) (by decide) rfl) (by decide) ?_
        refine gw_ld rfl rfl ?_
        refine z_C (m := 4) rfl rfl (fun x111 ex111 => ?_)
        refine gw_ld rfl rfl ?_
        refine z_cl rfl rfl rfl rfl rfl rfl rfl rfl rfl rfl rfl (zT X107.1 (by decide) rfl) ?_
        refine k_note X107  (fun h112 F113 X114  => ?_)
        have F115 := zF_tr F108 (zF_mono F113 (fun q hq => by first | exact hq | (unfold zX at *; omega) | omega))
        have f116 : ez_I h112 52 10 = (ez_I h16 52 10) := zF_I F113 (by omega) (f109)
        have f117 : ez_I h112 52 11 = (ez_I h16 52 11) := zF_I F113 (by omega) (f110)
        refine gw_ld rfl rfl ?_
        refine z_gR (q := 55) (zT X114.1 (by decide) rfl) (zRf X114.1 (by decide) (by decide) rfl) (by decide) ?_
        refine gw_ld rfl rfl ?_
        refine z_C (m := 5) rfl rfl (fun x118 ex118 => ?_)
        refine gw_ld rfl rfl ?_
        refine z_cl rfl rfl rfl rfl rfl rfl rfl rfl rfl rfl rfl (zT X114.1 (by decide) rfl) ?_
        refine k_note X114  (fun h119 F120 X121  => ?_)
        have F122 := zF_tr F115 (zF_mono F120 (fun q hq => by first | exact hq | (unfold zX at *; omega) | omega))
        have f123 : ez_I h119 52 10 = (ez_I h16 52 10) := zF_I F120 (by omega) (f116)
        have f124 : ez_I h119 52 11 = (ez_I h16 52 11) := zF_I F120 (by omega) (f117)
        refine z_rv ?_
        have t125 := congrArg Int32.toInt f123
        have t126 := congrArg Int32.toInt f124
        exact K _ F122 X121
    · have c51 : ¬ (x49.toInt ≠ x47.toInt) := c51
      refine z_C (m := 0) rfl rfl (fun x127 ex127 => ?_)
      refine z_go ?_
      refine gw_skip _ ?_
      refine z_cl rfl rfl rfl rfl rfl rfl rfl rfl rfl rfl rfl (zT X18.1 (by decide) rfl) ?_
      refine k_note X18  (fun h128 F129 X130  => ?_)
      have F131 := zF_tr F20 (zF_mono F129 (fun q hq => by first | exact hq | (unfold zX at *; omega) | omega))
      have f132 : ez_I h128 52 10 = (ez_I h16 52 10) := zF_I F129 (by omega) (rfl)
      have f133 : ez_I h128 52 11 = (ez_I h16 52 11) := zF_I F129 (by omega) (rfl)
      refine gw_ld rfl rfl ?_
      refine z_gR (q := 55) (zT X130.1 (by decide) rfl) (zRf X130.1 (by decide) (by decide) rfl) (by decide) ?_
      refine gw_ld rfl rfl ?_
      refine z_C (m := 2) rfl rfl (fun x134 ex134 => ?_)
      refine gw_ld rfl rfl ?_
      refine z_gI2 (by decide) (zT X130.1 (by decide) rfl) (f133) ?_
      refine z_cl rfl rfl rfl rfl rfl rfl rfl rfl rfl rfl rfl (zT X130.1 (by decide) rfl) ?_
      refine k_note X130  (fun h135 F136 X137  => ?_)
      have F138 := zF_tr F131 (zF_mono F136 (fun q hq => by first | exact hq | (unfold zX at *; omega) | omega))
      have f139 : ez_I h135 52 10 = (ez_I h16 52 10) := zF_I F136 (by omega) (f132)
      have f140 : ez_I h135 52 11 = (ez_I h16 52 11) := zF_I F136 (by omega) (f133)
      refine gw_ld rfl rfl ?_
      refine z_gR (q := 55) (zT X137.1 (by decide) rfl) (zRf X137.1 (by decide) (by decide) rfl) (by decide) ?_
      refine gw_ld rfl rfl ?_
      refine z_C (m := 3) rfl rfl (fun x141 ex141 => ?_)
      refine gw_ld rfl rfl ?_
      refine z_cl rfl rfl rfl rfl rfl rfl rfl rfl rfl rfl rfl (zT X137.1 (by decide) rfl) ?_
      refine k_note X137  (fun h142 F143 X144  => ?_)
      have F145 := zF_tr F138 (zF_mono F143 (fun q hq => by first | exact hq | (unfold zX at *; omega) | omega))
      have f146 : ez_I h142 52 10 = (ez_I h16 52 10) := zF_I F143 (by omega) (f139)
      have f147 : ez_I h142 52 11 = (ez_I h16 52 11) := zF_I F143 (by omega) (f140)
      refine gw_ld rfl rfl ?_
      refine z_gR (q := 55) (zT X144.1 (by decide) rfl) (zRf X144.1 (by decide) (by decide) rfl) (by decide) ?_
      refine gw_ld rfl rfl ?_
      refine z_C (m := 4) rfl rfl (fun x148 ex148 => ?_)
      refine gw_ld rfl rfl ?_
      refine z_cl rfl rfl rfl rfl rfl rfl rfl rfl rfl rfl rfl (zT X144.1 (by decide) rfl) ?_
      refine k_note X144  (fun h149 F150 X151  => ?_)
      have F152 := zF_tr F145 (zF_mono F150 (fun q hq => by first | exact hq | (unfold zX at *; omega) | omega))
      have f153 : ez_I h149 52 10 = (ez_I h16 52 10) := zF_I F150 (by omega) (f146)
      have f154 : ez_I h149 52 11 = (ez_I h16 52 11) := zF_I F150 (by omega) (f147)
      refine gw_ld rfl rfl ?_
      refine z_gR (q := 55) (zT X151.1 (by decide) rfl) (zRf X151.1 (by decide) (by decide) rfl) (by decide) ?_
      refine gw_ld rfl rfl ?_
      refine z_C (m := 5) rfl rfl (fun x155 ex155 => ?_)
      refine gw_ld rfl rfl ?_
      refine z_cl rfl rfl rfl rfl rfl rfl rfl rfl rfl rfl rfl (zT X151.1 (by decide) rfl) ?_
      refine k_note X151  (fun h156 F157 X158  => ?_)
      have F159 := zF_tr F152 (zF_mono F157 (fun q hq => by first | exact hq | (unfold zX at *; omega) | omega))
      have f160 : ez_I h156 52 10 = (ez_I h16 52 10) := zF_I F157 (by omega) (f153)
      have f161 : ez_I h156 52 11 = (ez_I h16 52 11) := zF_I F157 (by omega) (f154)
      refine z_rv ?_
      have t162 := congrArg Int32.toInt f160
      have t163 := congrArg Int32.toInt f161
      exact K _ F159 X158
  · have c15 : ¬ (x14.toInt ≠ 0) := c15
    refine gw_ld rfl rfl ?_
    refine z_gR (q := 14) (zT X11.1 (by decide) rfl) (zRf X11.1 (by decide) (by decide) rfl) (by decide) ?_
    refine z_gR (q := 36) (zT X11.1 (by decide) rfl) (zRf X11.1 (by decide) (by decide) rfl) (by decide) ?_
    refine z_gR (q := 37) (zT X11.1 (by decide) rfl) (zRf X11.1 (by decide) (by decide) rfl) (by decide) ?_
    refine z_C (m := 0) rfl rfl (fun x164 ex164 => ?_)
    refine z_C (m := 1) rfl rfl (fun x165 ex165 => ?_)
    refine z_is (n := 288) (zT X11.1 (by decide) rfl) (zN X11.1 (by decide) rfl) (by omega) (fun h166 e167 => ?_)
    have X168 := xI_set X11 e167 (xW_of (by decide))
    have F169 := zF_set F12 e167 (by unfold zX; omega)
    refine gw_ld rfl rfl ?_
    refine z_gR (q := 61) (zT X168.1 (by decide) rfl) (zRf X168.1 (by decide) (by decide) rfl) (by decide) ?_
    refine gw_ld rfl rfl ?_
    refine z_gR (q := 14) (zT X168.1 (by decide) rfl) (zRf X168.1 (by decide) (by decide) rfl) (by decide) ?_
    refine gw_ld rfl rfl ?_
    refine z_gR (q := 9) (zT X168.1 (by decide) rfl) (zRf X168.1 (by decide) (by decide) rfl) (by decide) ?_
    refine z_cl rfl rfl rfl rfl rfl rfl rfl rfl rfl rfl rfl (zT X168.1 (by decide) rfl) ?_
    refine k_plan X168 hE (fun h170 x173 F171 X172  => ?_)
    have rx173 := z_rng x173
    have F174 := zF_tr F169 (zF_mono F171 (fun q hq => by first | exact hq | (unfold zX at *; omega) | omega))
    refine gw_st rfl rfl rfl ?_
    show ez_gw _ _ _ _ _ _ _ _ [some (.ref 52), some (.int k), some (.int x14), some (.int x173), none, none, none, none] _ _ _
    refine z_C (m := 3) rfl rfl (fun x175 ex175 => ?_)
    refine gw_ld rfl rfl ?_
    refine z_addW (fun x176 ex176 => ?_)
    have rx176 := z_rng x176
    have qx176 := congrArg Int32.toInt ex176
    refine gw_ld rfl rfl ?_
    have r177 := z_rng ((ez_I h170 52 10))
    refine z_gI2 (by decide) (zT X172.1 (by decide) rfl) (rfl) ?_
    refine z_addW (fun x178 ex178 => ?_)
    have rx178 := z_rng x178
    have qx178 := congrArg Int32.toInt ex178
    refine gw_ld rfl rfl ?_
    refine z_addW (fun x179 ex179 => ?_)
    have rx179 := z_rng x179
    have qx179 := congrArg Int32.toInt ex179
    refine gw_ld rfl rfl ?_
    refine z_gR (q := 66) (zT X172.1 (by decide) rfl) (zRf X172.1 (by decide) (by decide) rfl) (by decide) ?_
    refine gw_ld rfl rfl ?_
    refine z_gR (q := 14) (zT X172.1 (by decide) rfl) (zRf X172.1 (by decide) (by decide) rfl) (by decide) ?_
    refine z_gR (q := 29) (zT X172.1 (by decide) rfl) (zRf X172.1 (by decide) (by decide) rfl) (by decide) ?_
    refine z_gR (q := 30) (zT X172.1 (by decide) rfl) (zRf X172.1 (by decide) (by decide) rfl) (by decide) ?_
    refine z_C (m := 286) rfl rfl (fun x180 ex180 => ?_)
    refine z_cl rfl rfl rfl rfl rfl rfl rfl rfl rfl rfl rfl (trivial) ?_
    refine k_wsum X172 (show zA 66 286 from fun _ S => ⟨zT S (by decide) rfl, zN S (by decide) rfl⟩) (show zA 30 288 from fun _ S => ⟨zT S (by decide) rfl, zN S (by decide) rfl⟩) (by decide) (fun x181  => ?_)
    have rx181 := z_rng x181
    refine z_addW (fun x182 ex182 => ?_)
    have rx182 := z_rng x182
    have qx182 := congrArg Int32.toInt ex182
    refine gw_st rfl rfl rfl ?_
    show ez_gw _ _ _ _ _ _ _ _ [some (.ref 52), some (.int k), some (.int x14), some (.int x173), some (.int x182), none, none, none] _ _ _
    refine z_C (m := 3) rfl rfl (fun x183 ex183 => ?_)
    refine gw_ld rfl rfl ?_
    refine z_gI2 (by decide) (zT X172.1 (by decide) rfl) (rfl) ?_
    refine z_addW (fun x184 ex184 => ?_)
    have rx184 := z_rng x184
    have qx184 := congrArg Int32.toInt ex184
    refine gw_ld rfl rfl ?_
    refine z_gR (q := 66) (zT X172.1 (by decide) rfl) (zRf X172.1 (by decide) (by decide) rfl) (by decide) ?_
    refine gw_ld rfl rfl ?_
    refine z_gR (q := 14) (zT X172.1 (by decide) rfl) (zRf X172.1 (by decide) (by decide) rfl) (by decide) ?_
    refine z_gR (q := 15) (zT X172.1 (by decide) rfl) (zRf X172.1 (by decide) (by decide) rfl) (by decide) ?_
    refine z_gR (q := 16) (zT X172.1 (by decide) rfl) (zRf X172.1 (by decide) (by decide) rfl) (by decide) ?_
    refine z_C (m := 286) rfl rfl (fun x185 ex185 => ?_)
    refine z_cl rfl rfl rfl rfl rfl rfl rfl rfl rfl rfl rfl (trivial) ?_
    refine k_wsum X172 (show zA 66 286 from fun _ S => ⟨zT S (by decide) rfl, zN S (by decide) rfl⟩) (show zA 16 288 from fun _ S => ⟨zT S (by decide) rfl, zN S (by decide) rfl⟩) (by decide) (fun x186  => ?_)
    have rx186 := z_rng x186
    refine z_addW (fun x187 ex187 => ?_)
    have rx187 := z_rng x187
    have qx187 := congrArg Int32.toInt ex187
    refine gw_ld rfl rfl ?_
    refine z_gR (q := 67) (zT X172.1 (by decide) rfl) (zRf X172.1 (by decide) (by decide) rfl) (by decide) ?_
    refine gw_ld rfl rfl ?_
    refine z_gR (q := 14) (zT X172.1 (by decide) rfl) (zRf X172.1 (by decide) (by decide) rfl) (by decide) ?_
    refine z_gR (q := 22) (zT X172.1 (by decide) rfl) (zRf X172.1 (by decide) (by decide) rfl) (by decide) ?_
    refine z_gR (q := 23) (zT X172.1 (by decide) rfl) (zRf X172.1 (by decide) (by decide) rfl) (by decide) ?_
    refine z_C (m := 30) rfl rfl (fun x188 ex188 => ?_)
    refine z_cl rfl rfl rfl rfl rfl rfl rfl rfl rfl rfl rfl (trivial) ?_
    refine k_wsum X172 (show zA 67 30 from fun _ S => ⟨zT S (by decide) rfl, zN S (by decide) rfl⟩) (show zA 23 288 from fun _ S => ⟨zT S (by decide) rfl, zN S (by decide) rfl⟩) (by decide) (fun x189  => ?_)
    have rx189 := z_rng x189
    refine z_addW (fun x190 ex190 => ?_)
    have rx190 := z_rng x190
    have qx190 := congrArg Int32.toInt ex190
    refine gw_st rfl rfl rfl ?_
    show ez_gw _ _ _ _ _ _ _ _ [some (.ref 52), some (.int k), some (.int x14), some (.int x173), some (.int x182), some (.int x190), none, none] _ _ _
    refine z_C (m := 3) rfl rfl (fun x191 ex191 => ?_)
    refine gw_ld rfl rfl ?_
    refine z_gR (q := 68) (zT X172.1 (by decide) rfl) (zRf X172.1 (by decide) (by decide) rfl) (by decide) ?_
    refine z_C (m := 3) rfl rfl (fun x192 ex192 => ?_)
    refine z_cl rfl rfl rfl rfl rfl rfl rfl rfl rfl rfl rfl (zT X172.1 (by decide) rfl) ?_
    refine k_missing X172  (fun x193 k194 => ?_)
    have rx193 := z_rng x193
    refine z_addW (fun x195 ex195 => ?_)
    have rx195 := z_rng x195
    have qx195 := congrArg Int32.toInt ex195
    refine z_C (m := 32) rfl rfl (fun x196 ex196 => ?_)
    refine z_addW (fun x197 ex197 => ?_)
    have rx197 := z_rng x197
    have qx197 := congrArg Int32.toInt ex197
    refine z_C (m := 8) rfl rfl (fun x198 ex198 => ?_)
    refine gw_ld rfl rfl ?_
    have r199 := z_rng ((ez_I h170 52 11))
    refine z_gI2 (by decide) (zT X172.1 (by decide) rfl) (rfl) ?_
    refine z_mulW (fun x200 ex200 => ?_)
    have rx200 := z_rng x200
    have qx200 := congrArg Int32.toInt ex200
    refine z_addW (fun x201 ex201 => ?_)
    have rx201 := z_rng x201
    have qx201 := congrArg Int32.toInt ex201
    refine gw_st rfl rfl rfl ?_
    show ez_gw _ _ _ _ _ _ _ _ [some (.ref 52), some (.int k), some (.int x14), some (.int x173), some (.int x182), some (.int x190), some (.int x201), none] _ _ _
    refine gw_ld rfl rfl ?_
    refine gw_ld rfl rfl ?_
    refine gw_ld rfl rfl ?_
    refine z_min rfl (fun x202 ex202 => ?_)
    refine z_min rfl (fun x203 ex203 => ?_)
    refine gw_st rfl rfl rfl ?_
    show ez_gw _ _ _ _ _ _ _ _ [some (.ref 52), some (.int k), some (.int x14), some (.int x173), some (.int x182), some (.int x190), some (.int x201), some (.int x203)] _ _ _
    refine gw_ld rfl rfl ?_
    refine z_gR (q := 55) (zT X172.1 (by decide) rfl) (zRf X172.1 (by decide) (by decide) rfl) (by decide) ?_
    refine gw_ld rfl rfl ?_
    refine z_C (m := 0) rfl rfl (fun x204 ex204 => ?_)
    refine gw_ld rfl rfl ?_
    refine gw_ld rfl rfl ?_
    refine z_b2 (fun c205 => ?_) (fun c205 => ?_)
    · have c205 : x203.toInt ≠ x201.toInt := c205
      refine gw_skip _ ?_
      refine gw_ld rfl rfl ?_
      refine gw_ld rfl rfl ?_
      refine z_b2 (fun c206 => ?_) (fun c206 => ?_)
      · have c206 : x203.toInt ≠ x190.toInt := c206
        refine gw_skip _ ?_
        refine z_C (m := 2) rfl rfl (fun x207 ex207 => ?_)
        refine z_cl rfl rfl rfl rfl rfl rfl rfl rfl rfl rfl rfl (zT X172.1 (by decide) rfl) ?_
        refine k_note X172  (fun h208 F209 X210  => ?_)
        have F211 := zF_tr F174 (zF_mono F209 (fun q hq => by first | exact hq | (unfold zX at *; omega) | omega))
        have f212 : ez_I h208 52 10 = (ez_I h170 52 10) := zF_I F209 (by omega) (rfl)
        have f213 : ez_I h208 52 11 = (ez_I h170 52 11) := zF_I F209 (by omega) (rfl)
        refine gw_ld rfl rfl ?_
        refine z_gR (q := 55) (zT X210.1 (by decide) rfl) (zRf X210.1 (by decide) (by decide) rfl) (by decide) ?_
        refine gw_ld rfl rfl ?_
        refine z_C (m := 2) rfl rfl (fun x214 ex214 => ?_)
        refine gw_ld rfl rfl ?_
        refine z_gI2 (by decide) (zT X210.1 (by decide) rfl) (f213) ?_
        refine z_cl rfl rfl rfl rfl rfl rfl rfl rfl rfl rfl rfl (zT X210.1 (by decide) rfl) ?_
        refine k_note X210  (fun h215 F216 X217  => ?_)
        have F218 := zF_tr F211 (zF_mono F216 (fun q hq => by first | exact hq | (unfold zX at *; omega) | omega))
        have f219 : ez_I h215 52 10 = (ez_I h170 52 10) := zF_I F216 (by omega) (f212)
        have f220 : ez_I h215 52 11 = (ez_I h170 52 11) := zF_I F216 (by omega) (f213)
        refine gw_ld rfl rfl ?_
        refine z_gR (q := 55) (zT X217.1 (by decide) rfl) (zRf X217.1 (by decide) (by decide) rfl) (by decide) ?_
        refine gw_ld rfl rfl ?_
        refine z_C (m := 3) rfl rfl (fun x221 ex221 => ?_)
        refine gw_ld rfl rfl ?_
        refine z_cl rfl rfl rfl rfl rfl rfl rfl rfl rfl rfl rfl (zT X217.1 (by decide) rfl) ?_
        refine k_note X217  (fun h222 F223 X224  => ?_)
        have F225 := zF_tr F218 (zF_mono F223 (fun q hq => by first | exact hq | (unfold zX at *; omega) | omega))
        have f226 : ez_I h222 52 10 = (ez_I h170 52 10) := zF_I F223 (by omega) (f219)
        have f227 : ez_I h222 52 11 = (ez_I h170 52 11) := zF_I F223 (by omega) (f220)
        refine gw_ld rfl rfl ?_
        refine z_gR (q := 55) (zT X224.1 (by decide) rfl) (zRf X224.1 (by decide) (by decide) rfl) (by decide) ?_
        refine gw_ld rfl rfl ?_
        refine z_C (m := 4) rfl rfl (fun x228 ex228 => ?_)
        refine gw_ld rfl rfl ?_
        refine z_cl rfl rfl rfl rfl rfl rfl rfl rfl rfl rfl rfl (zT X224.1 (by decide) rfl) ?_
        refine k_note X224  (fun h229 F230 X231  => ?_)
        have F232 := zF_tr F225 (zF_mono F230 (fun q hq => by first | exact hq | (unfold zX at *; omega) | omega))
        have f233 : ez_I h229 52 10 = (ez_I h170 52 10) := zF_I F230 (by omega) (f226)
        have f234 : ez_I h229 52 11 = (ez_I h170 52 11) := zF_I F230 (by omega) (f227)
        refine gw_ld rfl rfl ?_
        refine z_gR (q := 55) (zT X231.1 (by decide) rfl) (zRf X231.1 (by decide) (by decide) rfl) (by decide) ?_
        refine gw_ld rfl rfl ?_
        refine z_C (m := 5) rfl rfl (fun x235 ex235 => ?_)
        refine gw_ld rfl rfl ?_
        refine z_cl rfl rfl rfl rfl rfl rfl rfl rfl rfl rfl rfl (zT X231.1 (by decide) rfl) ?_
        refine k_note X231  (fun h236 F237 X238  => ?_)
        have F239 := zF_tr F232 (zF_mono F237 (fun q hq => by first | exact hq | (unfold zX at *; omega) | omega))
        have f240 : ez_I h236 52 10 = (ez_I h170 52 10) := zF_I F237 (by omega) (f233)
        have f241 : ez_I h236 52 11 = (ez_I h170 52 11) := zF_I F237 (by omega) (f234)
        refine z_rv ?_
        have t242 := congrArg Int32.toInt f240
        have t243 := congrArg Int32.toInt f241
        exact K _ F239 X238
      · have c206 : ¬ (x203.toInt ≠ x190.toInt) := c206
        refine z_C (m := 1) rfl rfl (fun x244 ex244 => ?_)
        refine z_go ?_
        refine gw_skip _ ?_
        refine z_cl rfl rfl rfl rfl rfl rfl rfl rfl rfl rfl rfl (zT X172.1 (by decide) rfl) ?_
        refine k_note X172  (fun h245 F246 X247  => ?_)
        have F248 := zF_tr F174 (zF_mono F246 (fun q hq => by first | exact hq | (unfold zX at *; omega) | omega))
        have f249 : ez_I h245 52 10 = (ez_I h170 52 10) := zF_I F246 (by omega) (rfl)
        have f250 : ez_I h245 52 11 = (ez_I h170 52 11) := zF_I F246 (by omega) (rfl)
        refine gw_ld rfl rfl ?_
        refine z_gR (q := 55) (zT X247.1 (by decide) rfl) (zRf X247.1 (by decide) (by decide) rfl) (by decide) ?_
        refine gw_ld rfl rfl ?_
        refine z_C (m := 2) rfl rfl (fun x251 ex251 => ?_)
        refine gw_ld rfl rfl ?_
        refine z_gI2 (by decide) (zT X247.1 (by decide) rfl) (f250) ?_
        refine z_cl rfl rfl rfl rfl rfl rfl rfl rfl rfl rfl rfl (zT X247.1 (by decide) rfl) ?_
        refine k_note X247  (fun h252 F253 X254  => ?_)
        have F255 := zF_tr F248 (zF_mono F253 (fun q hq => by first | exact hq | (unfold zX at *; omega) | omega))
        have f256 : ez_I h252 52 10 = (ez_I h170 52 10) := zF_I F253 (by omega) (f249)
        have f257 : ez_I h252 52 11 = (ez_I h170 52 11) := zF_I F253 (by omega) (f250)
        refine gw_ld rfl rfl ?_
        refine z_gR (q := 55) (zT X254.1 (by decide) rfl) (zRf X254.1 (by decide) (by decide) rfl) (by decide) ?_
        refine gw_ld rfl rfl ?_
        refine z_C (m := 3) rfl rfl (fun x258 ex258 => ?_)
        refine gw_ld rfl rfl ?_
        refine z_cl rfl rfl rfl rfl rfl rfl rfl rfl rfl rfl rfl (zT X254.1 (by decide) rfl) ?_
        refine k_note X254  (fun h259 F260 X261  => ?_)
        have F262 := zF_tr F255 (zF_mono F260 (fun q hq => by first | exact hq | (unfold zX at *; omega) | omega))
        have f263 : ez_I h259 52 10 = (ez_I h170 52 10) := zF_I F260 (by omega) (f256)
        have f264 : ez_I h259 52 11 = (ez_I h170 52 11) := zF_I F260 (by omega) (f257)
        refine gw_ld rfl rfl ?_
        refine z_gR (q := 55) (zT X261.1 (by decide) rfl) (zRf X261.1 (by decide) (by decide) rfl) (by decide) ?_
        refine gw_ld rfl rfl ?_
        refine z_C (m := 4) rfl rfl (fun x265 ex265 => ?_)
        refine gw_ld rfl rfl ?_
        refine z_cl rfl rfl rfl rfl rfl rfl rfl rfl rfl rfl rfl (zT X261.1 (by decide) rfl) ?_
        refine k_note X261  (fun h266 F267 X268  => ?_)
        have F269 := zF_tr F262 (zF_mono F267 (fun q hq => by first | exact hq | (unfold zX at *; omega) | omega))
        have f270 : ez_I h266 52 10 = (ez_I h170 52 10) := zF_I F267 (by omega) (f263)
        have f271 : ez_I h266 52 11 = (ez_I h170 52 11) := zF_I F267 (by omega) (f264)
        refine gw_ld rfl rfl ?_
        refine z_gR (q := 55) (zT X268.1 (by decide) rfl) (zRf X268.1 (by decide) (by decide) rfl) (by decide) ?_
        refine gw_ld rfl rfl ?_
        refine z_C (m := 5) rfl rfl (fun x272 ex272 => ?_)
        refine gw_ld rfl rfl ?_
        refine z_cl rfl rfl rfl rfl rfl rfl rfl rfl rfl rfl rfl (zT X268.1 (by decide) rfl) ?_
        refine k_note X268  (fun h273 F274 X275  => ?_)
        have F276 := zF_tr F269 (zF_mono F274 (fun q hq => by first | exact hq | (unfold zX at *; omega) | omega))
        have f277 : ez_I h273 52 10 = (ez_I h170 52 10) := zF_I F274 (by omega) (f270)
        have f278 : ez_I h273 52 11 = (ez_I h170 52 11) := zF_I F274 (by omega) (f271)
        refine z_rv ?_
        have t279 := congrArg Int32.toInt f277
        have t280 := congrArg Int32.toInt f278
        exact K _ F276 X275
    · have c205 : ¬ (x203.toInt ≠ x201.toInt) := c205
      refine z_C (m := 0) rfl rfl (fun x281 ex281 => ?_)
      refine z_go ?_
      refine gw_skip _ ?_
      refine z_cl rfl rfl rfl rfl rfl rfl rfl rfl rfl rfl rfl (zT X172.1 (by decide) rfl) ?_
      refine k_note X172  (fun h282 F283 X284  => ?_)
      have F285 := zF_tr F174 (zF_mono F283 (fun q hq => by first | exact hq | (unfold zX at *; omega) | omega))
      have f286 : ez_I h282 52 10 = (ez_I h170 52 10) := zF_I F283 (by omega) (rfl)
      have f287 : ez_I h282 52 11 = (ez_I h170 52 11) := zF_I F283 (by omega) (rfl)
      refine gw_ld rfl rfl ?_
      refine z_gR (q := 55) (zT X284.1 (by decide) rfl) (zRf X284.1 (by decide) (by decide) rfl) (by decide) ?_
      refine gw_ld rfl rfl ?_
      refine z_C (m := 2) rfl rfl (fun x288 ex288 => ?_)
      refine gw_ld rfl rfl ?_
      refine z_gI2 (by decide) (zT X284.1 (by decide) rfl) (f287) ?_
      refine z_cl rfl rfl rfl rfl rfl rfl rfl rfl rfl rfl rfl (zT X284.1 (by decide) rfl) ?_
      refine k_note X284  (fun h289 F290 X291  => ?_)
      have F292 := zF_tr F285 (zF_mono F290 (fun q hq => by first | exact hq | (unfold zX at *; omega) | omega))
      have f293 : ez_I h289 52 10 = (ez_I h170 52 10) := zF_I F290 (by omega) (f286)
      have f294 : ez_I h289 52 11 = (ez_I h170 52 11) := zF_I F290 (by omega) (f287)
      refine gw_ld rfl rfl ?_
      refine z_gR (q := 55) (zT X291.1 (by decide) rfl) (zRf X291.1 (by decide) (by decide) rfl) (by decide) ?_
      refine gw_ld rfl rfl ?_
      refine z_C (m := 3) rfl rfl (fun x295 ex295 => ?_)
      refine gw_ld rfl rfl ?_
      refine z_cl rfl rfl rfl rfl rfl rfl rfl rfl rfl rfl rfl (zT X291.1 (by decide) rfl) ?_
      refine k_note X291  (fun h296 F297 X298  => ?_)
      have F299 := zF_tr F292 (zF_mono F297 (fun q hq => by first | exact hq | (unfold zX at *; omega) | omega))
      have f300 : ez_I h296 52 10 = (ez_I h170 52 10) := zF_I F297 (by omega) (f293)
      have f301 : ez_I h296 52 11 = (ez_I h170 52 11) := zF_I F297 (by omega) (f294)
      refine gw_ld rfl rfl ?_
      refine z_gR (q := 55) (zT X298.1 (by decide) rfl) (zRf X298.1 (by decide) (by decide) rfl) (by decide) ?_
      refine gw_ld rfl rfl ?_
      refine z_C (m := 4) rfl rfl (fun x302 ex302 => ?_)
      refine gw_ld rfl rfl ?_
      refine z_cl rfl rfl rfl rfl rfl rfl rfl rfl rfl rfl rfl (zT X298.1 (by decide) rfl) ?_
      refine k_note X298  (fun h303 F304 X305  => ?_)
      have F306 := zF_tr F299 (zF_mono F304 (fun q hq => by first | exact hq | (unfold zX at *; omega) | omega))
      have f307 : ez_I h303 52 10 = (ez_I h170 52 10) := zF_I F304 (by omega) (f300)
      have f308 : ez_I h303 52 11 = (ez_I h170 52 11) := zF_I F304 (by omega) (f301)
      refine gw_ld rfl rfl ?_
      refine z_gR (q := 55) (zT X305.1 (by decide) rfl) (zRf X305.1 (by decide) (by decide) rfl) (by decide) ?_
      refine gw_ld rfl rfl ?_
      refine z_C (m := 5) rfl rfl (fun x309 ex309 => ?_)
      refine gw_ld rfl rfl ?_
      refine z_cl rfl rfl rfl rfl rfl rfl rfl rfl rfl rfl rfl (zT X305.1 (by decide) rfl) ?_
      refine k_note X305  (fun h310 F311 X312  => ?_)
      have F313 := zF_tr F306 (zF_mono F311 (fun q hq => by first | exact hq | (unfold zX at *; omega) | omega))
      have f314 : ez_I h310 52 10 = (ez_I h170 52 10) := zF_I F311 (by omega) (f307)
      have f315 : ez_I h310 52 11 = (ez_I h170 52 11) := zF_I F311 (by omega) (f308)
      refine z_rv ?_
      have t316 := congrArg Int32.toInt f314
      have t317 := congrArg Int32.toInt f315
      exact K _ F313 X312
set_option maxRecDepth 4000 in
set_option maxHeartbeats 20000000 in
theorem k_wBlock {E : Nat → Nat × (Nat → Int32)} {d : Nat} {Q : ez_Q} {h : ez_H} {k : Int32} {a : Int32} {b : Int32} {pl : Int32} (X : xI h) (hE : zE E) (K : ∀ h2, zF (zX) h h2 → xI h2 → Q (.inl none) h2) : pw E (d + 4) 119 0 [some (.ref 52), some (.int k), some (.int a), some (.int b), some (.ref 2), some (.int pl), none] [] h Q := by
  have gk := z_rng k
  have ga := z_rng a
  have gb := z_rng b
  have gpl := z_rng pl
  have F := zF_refl (zX) h
  apply ez_Wp_in
  show ez_gw _ _ _ _ _ _ (cz_119) _ _ _ _ _
  refine gw_skip _ ?_
  refine gw_ld rfl rfl ?_
  refine z_gR (q := 55) (zT X.1 (by decide) rfl) (zRf X.1 (by decide) (by decide) rfl) (by decide) ?_
  refine gw_ld rfl rfl ?_
  refine z_C (m := 0) rfl rfl (fun x1 ex1 => ?_)
  refine z_cl rfl rfl rfl rfl rfl rfl rfl rfl rfl rfl rfl (zT X.1 (by decide) rfl) ?_
  refine k_fact X  (fun x2 k3 => ?_)
  have rx2 := z_rng x2
  refine gw_st rfl rfl rfl ?_
  show ez_gw _ _ _ _ _ _ _ _ [some (.ref 52), some (.int k), some (.int a), some (.int b), some (.ref 2), some (.int pl), some (.int x2)] _ _ _
  refine gw_ld rfl rfl ?_
  refine z_gR (q := 68) (zT X.1 (by decide) rfl) (zRf X.1 (by decide) (by decide) rfl) (by decide) ?_
  refine gw_ld rfl rfl ?_
  refine z_C (m := 2) rfl rfl (fun x4 ex4 => ?_)
  refine z_cl rfl rfl rfl rfl rfl rfl rfl rfl rfl rfl rfl (zT X.1 (by decide) rfl) ?_
  refine k_putBits X  (fun h5 F6 X7  => ?_)
  have F8 := zF_tr F (zF_mono F6 (fun q hq => by first | exact hq | (unfold zX at *; omega) | omega))
  refine gw_ld rfl rfl ?_
  refine z_b1 (fun c9 => ?_) (fun c9 => ?_)
  · have c9 : x2.toInt ≠ 0 := c9
    refine gw_skip _ ?_
    refine gw_ld rfl rfl ?_
    refine z_C (m := 1) rfl rfl (fun x10 ex10 => ?_)
    refine z_b2 (fun c11 => ?_) (fun c11 => ?_)
    · have c11 : x2.toInt ≠ x10.toInt := c11
      refine gw_skip _ ?_
      refine gw_ld rfl rfl ?_
      refine z_gR (q := 55) (zT X7.1 (by decide) rfl) (zRf X7.1 (by decide) (by decide) rfl) (by decide) ?_
      refine gw_ld rfl rfl ?_
      refine gw_ld rfl rfl ?_
      refine z_gR (q := 14) (zT X7.1 (by decide) rfl) (zRf X7.1 (by decide) (by decide) rfl) (by decide) ?_
      refine z_cl rfl rfl rfl rfl rfl rfl rfl rfl rfl rfl rfl (zT X7.1 (by decide) rfl) ?_
      refine k_keep X7  (fun h12 F13 X14  => ?_)
      have F15 := zF_tr F8 (zF_mono F13 (fun q hq => by first | exact hq | (unfold zX at *; omega) | omega))
      refine gw_ld rfl rfl ?_
      refine z_gR (q := 14) (zT X14.1 (by decide) rfl) (zRf X14.1 (by decide) (by decide) rfl) (by decide) ?_
      refine z_gR (q := 29) (zT X14.1 (by decide) rfl) (zRf X14.1 (by decide) (by decide) rfl) (by decide) ?_
      refine z_cl rfl rfl rfl rfl rfl rfl rfl rfl rfl rfl rfl (zT X14.1 (by decide) rfl) ?_
      refine k_settle X14 (p := 29) (by omega) (fun h16 F17 X18  => ?_)
      have F19 := zF_tr F15 (zF_mono F17 (fun q hq => by first | exact hq | (unfold zX at *; omega) | omega))
      refine gw_ld rfl rfl ?_
      refine z_gR (q := 14) (zT X18.1 (by decide) rfl) (zRf X18.1 (by decide) (by decide) rfl) (by decide) ?_
      refine z_gR (q := 36) (zT X18.1 (by decide) rfl) (zRf X18.1 (by decide) (by decide) rfl) (by decide) ?_
      refine z_cl rfl rfl rfl rfl rfl rfl rfl rfl rfl rfl rfl (zT X18.1 (by decide) rfl) ?_
      refine k_settle X18 (p := 36) (by omega) (fun h20 F21 X22  => ?_)
      have F23 := zF_tr F19 (zF_mono F21 (fun q hq => by first | exact hq | (unfold zX at *; omega) | omega))
      refine gw_ld rfl rfl ?_
      refine z_gR (q := 61) (zT X22.1 (by decide) rfl) (zRf X22.1 (by decide) (by decide) rfl) (by decide) ?_
      refine gw_ld rfl rfl ?_
      refine z_gR (q := 14) (zT X22.1 (by decide) rfl) (zRf X22.1 (by decide) (by decide) rfl) (by decide) ?_
      refine z_gR (q := 43) (zT X22.1 (by decide) rfl) (zRf X22.1 (by decide) (by decide) rfl) (by decide) ?_
      refine gw_ld rfl rfl ?_
      refine z_gR (q := 68) (zT X22.1 (by decide) rfl) (zRf X22.1 (by decide) (by decide) rfl) (by decide) ?_
      refine z_cl rfl rfl rfl rfl rfl rfl rfl rfl rfl rfl rfl (zT X22.1 (by decide) rfl) ?_
      refine k_hwrite X22 hE (fun h24 F25 X26  => ?_)
      have F27 := zF_tr F23 (zF_mono F25 (fun q hq => by first | exact hq | (unfold zX at *; omega) | omega))
      refine gw_ld rfl rfl ?_
      refine gw_ld rfl rfl ?_
      refine gw_ld rfl rfl ?_
      refine gw_ld rfl rfl ?_
      refine z_gR (q := 14) (zT X26.1 (by decide) rfl) (zRf X26.1 (by decide) (by decide) rfl) (by decide) ?_
      refine z_gR (q := 29) (zT X26.1 (by decide) rfl) (zRf X26.1 (by decide) (by decide) rfl) (by decide) ?_
      refine gw_ld rfl rfl ?_
      refine z_gR (q := 14) (zT X26.1 (by decide) rfl) (zRf X26.1 (by decide) (by decide) rfl) (by decide) ?_
      refine z_gR (q := 36) (zT X26.1 (by decide) rfl) (zRf X26.1 (by decide) (by decide) rfl) (by decide) ?_
      refine z_cl rfl rfl rfl rfl rfl rfl rfl rfl rfl rfl rfl (zT X26.1 (by decide) rfl) ?_
      refine k_wParts X26 hE (p := 29) (q := 36) (by omega) (by omega) (fun h28 F29 X30  => ?_)
      have F31 := zF_tr F27 (zF_mono F29 (fun q hq => by first | exact hq | (unfold zX at *; omega) | omega))
      refine z_rv ?_
      exact K _ F31 X30
    · have c11 : ¬ (x2.toInt ≠ x10.toInt) := c11
      refine gw_ld rfl rfl ?_
      refine gw_ld rfl rfl ?_
      refine gw_ld rfl rfl ?_
      refine gw_ld rfl rfl ?_
      refine z_gR (q := 14) (zT X7.1 (by decide) rfl) (zRf X7.1 (by decide) (by decide) rfl) (by decide) ?_
      refine z_gR (q := 15) (zT X7.1 (by decide) rfl) (zRf X7.1 (by decide) (by decide) rfl) (by decide) ?_
      refine gw_ld rfl rfl ?_
      refine z_gR (q := 14) (zT X7.1 (by decide) rfl) (zRf X7.1 (by decide) (by decide) rfl) (by decide) ?_
      refine z_gR (q := 22) (zT X7.1 (by decide) rfl) (zRf X7.1 (by decide) (by decide) rfl) (by decide) ?_
      refine z_cl rfl rfl rfl rfl rfl rfl rfl rfl rfl rfl rfl (zT X7.1 (by decide) rfl) ?_
      refine k_wParts X7 hE (p := 15) (q := 22) (by omega) (by omega) (fun h32 F33 X34  => ?_)
      have F35 := zF_tr F8 (zF_mono F33 (fun q hq => by first | exact hq | (unfold zX at *; omega) | omega))
      refine z_go ?_
      refine gw_skip _ ?_
      refine z_rv ?_
      exact K _ F35 X34
  · have c9 : ¬ (x2.toInt ≠ 0) := c9
    refine gw_ld rfl rfl ?_
    refine gw_ld rfl rfl ?_
    refine gw_ld rfl rfl ?_
    refine z_cl rfl rfl rfl rfl rfl rfl rfl rfl rfl rfl rfl (zT X7.1 (by decide) rfl) ?_
    refine k_wStored X7  (fun h36 F37 X38  => ?_)
    have F39 := zF_tr F8 (zF_mono F37 (fun q hq => by first | exact hq | (unfold zX at *; omega) | omega))
    refine z_go ?_
    refine gw_skip _ ?_
    refine z_rv ?_
    exact K _ F39 X38
set_option maxRecDepth 4000 in
set_option maxHeartbeats 20000000 in
theorem k_run_L {E : Nat → Nat × (Nat → Int32)} {d : Nat} {Q : ez_Q} {h : ez_H}  (X : xI h) (hE : zE E) (K : ∀ h2, zF (zX) h h2 → xI h2 → Q (.inl none) h2) : ∀ N : Nat, (∀ (h2 : ez_H) (pl : Int32) (i : Int32) (l4 : Option Value) (l5 : Option Value), zF (zX) h h2 → xI h2 → (0 ≤ i.toInt) → (2147483647 - i.toInt) < (N : Int) → pw E (d + 5) 114 30 [some (.ref 52), some (.ref 2), some (.int pl), some (.int i), l4, l5] [] h2 Q) := by
  intro N
  induction N with
  | zero => exact fun h2 pl i l4 l5 F X2 hinv hm => absurd hm (by have w0 := z_rng i; omega)
  | succ N ih =>
    refine fun h2 pl i l4 l5 F X2 hinv hm => ?_
    · skip
      have w0 := z_rng i
      apply ez_Wp_in
      show ez_gw _ _ _ _ _ _ (cz_114) _ _ _ _ _
      refine gw_skip _ ?_
      refine gw_ld rfl rfl ?_
      refine gw_ld rfl rfl ?_
      refine z_gR (q := 55) (zT X2.1 (by decide) rfl) (zRf X2.1 (by decide) (by decide) rfl) (by decide) ?_
      have r1 := X2.2.2.2.2.2.1
      refine z_gI2 (by decide) (zT X2.1 (by decide) rfl) (rfl) ?_
      refine z_b2 (fun c2 => ?_) (fun c2 => ?_)
      · have c2 : ((ez_I h2 55 2)).toInt ≤ i.toInt := c2
        refine gw_skip _ ?_
        refine gw_ld rfl rfl ?_
        refine z_gR (q := 68) (zT X2.1 (by decide) rfl) (zRf X2.1 (by decide) (by decide) rfl) (by decide) ?_
        refine z_cl rfl rfl rfl rfl rfl rfl rfl rfl rfl rfl rfl (zT X2.1 (by decide) rfl) ?_
        refine k_fillByte X2  (fun h3 F4 X5  => ?_)
        have F6 := zF_tr F (zF_mono F4 (fun q hq => by first | exact hq | (unfold zX at *; omega) | omega))
        have f7 : ez_I h3 55 2 = (ez_I h2 55 2) := zF_I F4 (by omega) (rfl)
        refine z_rv ?_
        have t8 := congrArg Int32.toInt f7
        exact K _ F6 X5
      · have c2 : ¬ (((ez_I h2 55 2)).toInt ≤ i.toInt) := c2
        refine gw_ld rfl rfl ?_
        refine z_C (m := 600) rfl rfl (fun x9 ex9 => ?_)
        first | refine z_mulR (c := 600) ex9 (by omega) (fun x10 ex10 => ?_) | refine z_mulW (fun x10 ex10 => ?_)
        have rx10 := z_rng x10
        refine gw_st rfl rfl rfl ?_
        show ez_gw _ _ _ _ _ _ _ _ [some (.ref 52), some (.ref 2), some (.int pl), some (.int i), some (.int x10), l5] _ _ _
        refine gw_ld rfl rfl ?_
        refine z_C (m := 600) rfl rfl (fun x11 ex11 => ?_)
        first | refine z_add (by omega) (fun x12 ex12 => ?_) | refine z_addW (fun x12 ex12 => ?_)
        have rx12 := z_rng x12
        refine gw_ld rfl rfl ?_
        refine z_gR (q := 53) (zT X2.1 (by decide) rfl) (zRf X2.1 (by decide) (by decide) rfl) (by decide) ?_
        have r13 := X2.2.2.2.2.1
        refine z_gI2 (by decide) (zT X2.1 (by decide) rfl) (rfl) ?_
        refine z_min rfl (fun x14 ex14 => ?_)
        refine gw_st rfl rfl rfl ?_
        show ez_gw _ _ _ _ _ _ _ _ [some (.ref 52), some (.ref 2), some (.int pl), some (.int i), some (.int x10), some (.int x14)] _ _ _
        refine gw_ld rfl rfl ?_
        refine gw_ld rfl rfl ?_
        refine gw_ld rfl rfl ?_
        refine z_cl rfl rfl rfl rfl rfl rfl rfl rfl rfl rfl rfl (zT X2.1 (by decide) rfl) ?_
        refine k_cBlock X2 hE (fun h15 F16 X17  => ?_)
        have F18 := zF_tr F (zF_mono F16 (fun q hq => by first | exact hq | (unfold zX at *; omega) | omega))
        refine gw_ld rfl rfl ?_
        refine z_gR (q := 55) (zT X17.1 (by decide) rfl) (zRf X17.1 (by decide) (by decide) rfl) (by decide) ?_
        refine gw_ld rfl rfl ?_
        refine z_C (m := 1) rfl rfl (fun x19 ex19 => ?_)
        refine gw_ld rfl rfl ?_
        refine gw_ld rfl rfl ?_
        refine z_subW (fun x20 ex20 => ?_)
        have rx20 := z_rng x20
        have qx20 := congrArg Int32.toInt ex20
        refine z_cl rfl rfl rfl rfl rfl rfl rfl rfl rfl rfl rfl (zT X17.1 (by decide) rfl) ?_
        refine k_note X17  (fun h21 F22 X23  => ?_)
        have F24 := zF_tr F18 (zF_mono F22 (fun q hq => by first | exact hq | (unfold zX at *; omega) | omega))
        refine gw_ld rfl rfl ?_
        refine gw_ld rfl rfl ?_
        refine z_cl rfl rfl rfl rfl rfl rfl rfl rfl rfl rfl rfl (zT X23.1 (by decide) rfl) ?_
        refine k_ways X23 hE (fun h25 F26 X27  => ?_)
        have F28 := zF_tr F24 (zF_mono F26 (fun q hq => by first | exact hq | (unfold zX at *; omega) | omega))
        refine gw_ld rfl rfl ?_
        refine z_gR (q := 68) (zT X27.1 (by decide) rfl) (zRf X27.1 (by decide) (by decide) rfl) (by decide) ?_
        refine gw_ld rfl rfl ?_
        refine gw_ld rfl rfl ?_
        refine z_gR (q := 55) (zT X27.1 (by decide) rfl) (zRf X27.1 (by decide) (by decide) rfl) (by decide) ?_
        have r29 := X27.2.2.2.2.2.1
        refine z_gI2 (by decide) (zT X27.1 (by decide) rfl) (rfl) ?_
        refine z_C (m := 1) rfl rfl (fun x30 ex30 => ?_)
        refine z_subW (fun x31 ex31 => ?_)
        have rx31 := z_rng x31
        have qx31 := congrArg Int32.toInt ex31
        refine z_b2 (fun c32 => ?_) (fun c32 => ?_)
        · have c32 : i.toInt ≠ x31.toInt := c32
          refine gw_skip _ ?_
          refine z_C (m := 0) rfl rfl (fun x33 ex33 => ?_)
          refine z_C (m := 1) rfl rfl (fun x34 ex34 => ?_)
          refine z_cl rfl rfl rfl rfl rfl rfl rfl rfl rfl rfl rfl (zT X27.1 (by decide) rfl) ?_
          refine k_putBits X27  (fun h35 F36 X37  => ?_)
          have F38 := zF_tr F28 (zF_mono F36 (fun q hq => by first | exact hq | (unfold zX at *; omega) | omega))
          have f39 : ez_I h35 55 2 = (ez_I h25 55 2) := zF_I F36 (by omega) (rfl)
          refine gw_ld rfl rfl ?_
          refine gw_ld rfl rfl ?_
          refine gw_ld rfl rfl ?_
          refine gw_ld rfl rfl ?_
          refine gw_ld rfl rfl ?_
          refine gw_ld rfl rfl ?_
          refine z_cl rfl rfl rfl rfl rfl rfl rfl rfl rfl rfl rfl (zT X37.1 (by decide) rfl) ?_
          refine k_wBlock X37 hE (fun h40 F41 X42  => ?_)
          have F43 := zF_tr F38 (zF_mono F41 (fun q hq => by first | exact hq | (unfold zX at *; omega) | omega))
          refine gw_ld rfl rfl ?_
          refine gw_ld rfl rfl ?_
          have r44 := z_rng ((ez_I h40 52 11))
          refine z_gI2 (by decide) (zT X42.1 (by decide) rfl) (rfl) ?_
          refine z_addW (fun x45 ex45 => ?_)
          have rx45 := z_rng x45
          have qx45 := congrArg Int32.toInt ex45
          refine gw_st rfl rfl rfl ?_
          show ez_gw _ _ _ _ _ _ _ _ [some (.ref 52), some (.ref 2), some (.int x45), some (.int i), some (.int x10), some (.int x14)] _ _ _
          first | (refine z_inc rfl (by rw [show (1 : Int32).toInt = 1 from rfl]; omega) (fun x46 ex46 => ?_); rw [show (1 : Int32).toInt = 1 from rfl] at ex46) | refine z_incW rfl (fun x46 ex46 => ?_)
          have rx46 := z_rng x46
          show ez_gw _ _ _ _ _ _ _ _ [some (.ref 52), some (.ref 2), some (.int x45), some (.int x46), some (.int x10), some (.int x14)] _ _ _
          refine z_go ?_
          exact ih _ x45 x46 (some (.int x10)) (some (.int x14)) F43 X42 (by first | trivial | omega) (by omega)
        · have c32 : ¬ (i.toInt ≠ x31.toInt) := c32
          refine z_C (m := 1) rfl rfl (fun x47 ex47 => ?_)
          refine z_go ?_
          refine gw_skip _ ?_
          refine z_C (m := 1) rfl rfl (fun x48 ex48 => ?_)
          refine z_cl rfl rfl rfl rfl rfl rfl rfl rfl rfl rfl rfl (zT X27.1 (by decide) rfl) ?_
          refine k_putBits X27  (fun h49 F50 X51  => ?_)
          have F52 := zF_tr F28 (zF_mono F50 (fun q hq => by first | exact hq | (unfold zX at *; omega) | omega))
          have f53 : ez_I h49 55 2 = (ez_I h25 55 2) := zF_I F50 (by omega) (rfl)
          refine gw_ld rfl rfl ?_
          refine gw_ld rfl rfl ?_
          refine gw_ld rfl rfl ?_
          refine gw_ld rfl rfl ?_
          refine gw_ld rfl rfl ?_
          refine gw_ld rfl rfl ?_
          refine z_cl rfl rfl rfl rfl rfl rfl rfl rfl rfl rfl rfl (zT X51.1 (by decide) rfl) ?_
          refine k_wBlock X51 hE (fun h54 F55 X56  => ?_)
          have F57 := zF_tr F52 (zF_mono F55 (fun q hq => by first | exact hq | (unfold zX at *; omega) | omega))
          refine gw_ld rfl rfl ?_
          refine gw_ld rfl rfl ?_
          have r58 := z_rng ((ez_I h54 52 11))
          refine z_gI2 (by decide) (zT X56.1 (by decide) rfl) (rfl) ?_
          refine z_addW (fun x59 ex59 => ?_)
          have rx59 := z_rng x59
          have qx59 := congrArg Int32.toInt ex59
          refine gw_st rfl rfl rfl ?_
          show ez_gw _ _ _ _ _ _ _ _ [some (.ref 52), some (.ref 2), some (.int x59), some (.int i), some (.int x10), some (.int x14)] _ _ _
          first | (refine z_inc rfl (by rw [show (1 : Int32).toInt = 1 from rfl]; omega) (fun x60 ex60 => ?_); rw [show (1 : Int32).toInt = 1 from rfl] at ex60) | refine z_incW rfl (fun x60 ex60 => ?_)
          have rx60 := z_rng x60
          show ez_gw _ _ _ _ _ _ _ _ [some (.ref 52), some (.ref 2), some (.int x59), some (.int x60), some (.int x10), some (.int x14)] _ _ _
          refine z_go ?_
          exact ih _ x59 x60 (some (.int x10)) (some (.int x14)) F57 X56 (by first | trivial | omega) (by omega)
set_option maxRecDepth 4000 in
set_option maxHeartbeats 20000000 in
theorem k_run {E : Nat → Nat × (Nat → Int32)} {d : Nat} {Q : ez_Q} {h : ez_H}  (X : xI h) (hE : zE E) (K : ∀ h2, zF (zX) h h2 → xI h2 → Q (.inl none) h2) : pw E (d + 5) 114 0 [some (.ref 52), some (.ref 2), none, none, none, none] [] h Q := by
  have F := zF_refl (zX) h
  apply ez_Wp_in
  show ez_gw _ _ _ _ _ _ (cz_114) _ _ _ _ _
  refine gw_skip _ ?_
  refine gw_ld rfl rfl ?_
  refine gw_ld rfl rfl ?_
  refine z_cl rfl rfl rfl rfl rfl rfl rfl rfl rfl rfl rfl (zT X.1 (by decide) rfl) ?_
  refine k_split X  (fun h1 F2 X3  => ?_)
  have F4 := zF_tr F (zF_mono F2 (fun q hq => by first | exact hq | (unfold zX at *; omega) | omega))
  refine gw_ld rfl rfl ?_
  refine z_gR (q := 68) (zT X3.1 (by decide) rfl) (zRf X3.1 (by decide) (by decide) rfl) (by decide) ?_
  refine z_cl rfl rfl rfl rfl rfl rfl rfl rfl rfl rfl rfl (zT X3.1 (by decide) rfl) ?_
  refine k_wbegin X3  (fun h5 F6 X7  => ?_)
  have F8 := zF_tr F4 (zF_mono F6 (fun q hq => by first | exact hq | (unfold zX at *; omega) | omega))
  refine gw_ld rfl rfl ?_
  refine z_gR (q := 55) (zT X7.1 (by decide) rfl) (zRf X7.1 (by decide) (by decide) rfl) (by decide) ?_
  refine gw_ld rfl rfl ?_
  refine z_gR (q := 53) (zT X7.1 (by decide) rfl) (zRf X7.1 (by decide) (by decide) rfl) (by decide) ?_
  have r9 := X7.2.2.2.2.1
  refine z_gI2 (by decide) (zT X7.1 (by decide) rfl) (rfl) ?_
  refine z_cl rfl rfl rfl rfl rfl rfl rfl rfl rfl rfl rfl (zT X7.1 (by decide) rfl) ?_
  refine k_bbegin X7  (fun h10 F11 X12  => ?_)
  have F13 := zF_tr F8 (zF_mono F11 (fun q hq => by first | exact hq | (unfold zX at *; omega) | omega))
  refine z_C (m := 0) rfl rfl (fun x14 ex14 => ?_)
  refine gw_st rfl rfl rfl ?_
  show ez_gw _ _ _ _ _ _ _ _ [some (.ref 52), some (.ref 2), some (.int x14), none, none, none] _ _ _
  refine z_C (m := 0) rfl rfl (fun x15 ex15 => ?_)
  refine gw_st rfl rfl rfl ?_
  show ez_gw _ _ _ _ _ _ _ _ [some (.ref 52), some (.ref 2), some (.int x14), some (.int x15), none, none] _ _ _
  exact ez_Wp_out ((k_run_L X hE K (((2147483647 - x15.toInt)).toNat + 1)) _ x14 x15 (none) (none) F13 X12 (by first | trivial | omega) (by omega))
