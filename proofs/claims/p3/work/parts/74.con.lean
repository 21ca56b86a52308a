/-! PRINTED by wip/p17/con2.py: contracts of the class, first part -/
theorem zRowR {h : ez_H} {p : Nat} (X : xI h) (hp : p = 2 ∨ p = 4 ∨ p = 50) : 0 ≤ (ez_I h p 1).toInt ∧ (ez_I h p 1).toInt ≤ 6100 := by
  rcases hp with rfl | rfl | rfl
  · exact X.2.1
  · exact X.2.2.1
  · exact X.2.2.2.1
/-- an array's kind and length, in every heap of the shape -/
def zA (w n : Nat) : Prop := ∀ h, zSh h → ez_t h w = 1000 ∧ ez_l h w = n
set_option maxRecDepth 4000 in
set_option maxHeartbeats 20000000 in
theorem k_has {E : Nat → Nat × (Nat → Int32)} {d : Nat} {Q : ez_Q} {h : ez_H} {p : Nat} {i : Int32} (X : xI h) (hp : p = 2 ∨ p = 4 ∨ p = 50) (K : ∀ x : Int32, (x.toInt = 0 ∨ x.toInt = 1) → (x.toInt = 1 → 0 ≤ i.toInt ∧ i.toInt < (ez_I h p 1).toInt ∧ i.toInt < 6100) → Q (.inl (some (.int x))) h) : pw E d 128 0 [some (.ref p), some (.int i)] [] h Q := by
  have gi := z_rng i
  have F := zF_refl (zX) h
  apply ez_Wp_in
  show ez_gw _ _ _ _ _ _ (cz_128) _ _ _ _ _
  refine gw_skip _ ?_
  refine gw_ld rfl rfl ?_
  refine z_b1 (fun c1 => ?_) (fun c1 => ?_)
  · have c1 : i.toInt < 0 := c1
    refine gw_skip _ ?_
    refine z_C (m := 0) rfl rfl (fun x2 ex2 => ?_)
    refine z_rz (by omega) ?_
    exact K x2 (by omega) (by omega)
  · have c1 : ¬ (i.toInt < 0) := c1
    refine gw_ld rfl rfl ?_
    refine gw_ld rfl rfl ?_
    have r3 := zRowR X hp
    refine z_gI2 (by decide) ((zRow X.1 hp).1) (rfl) ?_
    refine z_b2 (fun c4 => ?_) (fun c4 => ?_)
    · have c4 : ((ez_I h p 1)).toInt ≤ i.toInt := c4
      refine gw_skip _ ?_
      refine z_C (m := 0) rfl rfl (fun x5 ex5 => ?_)
      refine z_rz (by omega) ?_
      exact K x5 (by omega) (by omega)
    · have c4 : ¬ (((ez_I h p 1)).toInt ≤ i.toInt) := c4
      refine gw_ld rfl rfl ?_
      refine gw_ld rfl rfl ?_
      refine z_gR (q := (p + 1)) ((zRow X.1 hp).1) ((zRow X.1 hp).2.1) (Nat.succ_ne_zero _) ?_
      refine z_al (n := 6100) (.inl ((zRow X.1 hp).2.2.1)) ((zRow X.1 hp).2.2.2) (by omega) (fun x6 ex6 => ?_)
      refine z_b2 (fun c7 => ?_) (fun c7 => ?_)
      · have c7 : x6.toInt ≤ i.toInt := c7
        refine gw_skip _ ?_
        refine z_C (m := 0) rfl rfl (fun x8 ex8 => ?_)
        refine z_rz (by omega) ?_
        exact K x8 (by omega) (by omega)
      · have c7 : ¬ (x6.toInt ≤ i.toInt) := c7
        refine z_C (m := 1) rfl rfl (fun x9 ex9 => ?_)
        refine z_go ?_
        refine gw_skip _ ?_
        refine z_rz (by omega) ?_
        exact K x9 (by omega) (by omega)
set_option maxRecDepth 4000 in
set_option maxHeartbeats 20000000 in
theorem k_add {E : Nat → Nat × (Nat → Int32)} {d : Nat} {Q : ez_Q} {h : ez_H} {p : Nat} {v : Int32} (X : xI h) (hp : p = 2 ∨ p = 4 ∨ p = 50) (K : ∀ h2, zF (fun q => q = p ∨ q = p + 1) h h2 → xI h2 → ((ez_I h p 1).toInt ≤ (ez_I h2 p 1).toInt) → Q (.inl none) h2) : pw E d 129 0 [some (.ref p), some (.int v)] [] h Q := by
  have gv := z_rng v
  have F := zF_refl (fun q => q = p ∨ q = p + 1) h
  apply ez_Wp_in
  show ez_gw _ _ _ _ _ _ (cz_129) _ _ _ _ _
  refine gw_skip _ ?_
  refine gw_ld rfl rfl ?_
  have r1 := zRowR X hp
  refine z_gI2 (by decide) ((zRow X.1 hp).1) (rfl) ?_
  refine z_b1 (fun c2 => ?_) (fun c2 => ?_)
  · have c2 : ((ez_I h p 1)).toInt < 0 := c2
    refine gw_skip _ ?_
    refine z_rv ?_
    exact K _ F X (by omega)
  · have c2 : ¬ (((ez_I h p 1)).toInt < 0) := c2
    refine gw_ld rfl rfl ?_
    refine z_gI2 (by decide) ((zRow X.1 hp).1) (rfl) ?_
    refine gw_ld rfl rfl ?_
    refine z_gR (q := (p + 1)) ((zRow X.1 hp).1) ((zRow X.1 hp).2.1) (Nat.succ_ne_zero _) ?_
    refine z_al (n := 6100) (.inl ((zRow X.1 hp).2.2.1)) ((zRow X.1 hp).2.2.2) (by omega) (fun x3 ex3 => ?_)
    refine z_b2 (fun c4 => ?_) (fun c4 => ?_)
    · have c4 : x3.toInt ≤ ((ez_I h p 1)).toInt := c4
      refine gw_skip _ ?_
      refine z_rv ?_
      exact K _ F X (by omega)
    · have c4 : ¬ (x3.toInt ≤ ((ez_I h p 1)).toInt) := c4
      refine gw_ld rfl rfl ?_
      refine z_gR (q := (p + 1)) ((zRow X.1 hp).1) ((zRow X.1 hp).2.1) (Nat.succ_ne_zero _) ?_
      refine gw_ld rfl rfl ?_
      refine z_gI2 (by decide) ((zRow X.1 hp).1) (rfl) ?_
      refine gw_ld rfl rfl ?_
      refine z_is (n := 6100) ((zRow X.1 hp).2.2.1) ((zRow X.1 hp).2.2.2) (by omega) (fun h5 e6 => ?_)
      have X7 := xI_set X e6 (⟨fun c => by omega, fun c => by omega, fun c => by omega, fun c => by omega, fun c => by omega, fun c => by omega⟩)
      have F8 := zF_set F e6 (by omega)
      have f9 : ez_I h5 p 1 = (ez_I h p 1) := (zI_ne e6 (by omega)).trans rfl
      refine gw_ld rfl rfl ?_
      refine gw_op rfl ?_
      refine z_gI2 (by decide) ((zRow X7.1 hp).1) (f9) ?_
      refine z_C (m := 1) rfl rfl (fun x10 ex10 => ?_)
      first | refine z_add (by omega) (fun x11 ex11 => ?_) | refine z_addW (fun x11 ex11 => ?_)
      have rx11 := z_rng x11
      refine z_pI ((zRow X7.1 hp).1) (fun h12 e13 => ?_)
      have X14 := xI_set X7 e13 (⟨fun c => by omega, fun c => by omega, fun c => by omega, fun c => by omega, fun c => by omega, fun c => by omega⟩)
      have F15 := zF_set F8 e13 (by omega)
      have f16 : ez_I h12 p 1 = x11 := zI_eq e13
      refine z_rv ?_
      have t17 := congrArg Int32.toInt f16
      exact K _ F15 X14 (by omega)
set_option maxRecDepth 4000 in
set_option maxHeartbeats 20000000 in
theorem k_phas {E : Nat → Nat × (Nat → Int32)} {d : Nat} {Q : ez_Q} {h : ez_H} {i : Int32} (X : xI h)  (K : ∀ x : Int32, (x.toInt = 0 ∨ x.toInt = 1) → (x.toInt = 1 → 0 ≤ i.toInt ∧ i.toInt < 6000) → Q (.inl (some (.int x))) h) : pw E d 123 0 [some (.ref 53), some (.int i)] [] h Q := by
  have gi := z_rng i
  have F := zF_refl (zX) h
  apply ez_Wp_in
  show ez_gw _ _ _ _ _ _ (cz_123) _ _ _ _ _
  refine gw_skip _ ?_
  refine gw_ld rfl rfl ?_
  refine z_b1 (fun c1 => ?_) (fun c1 => ?_)
  · have c1 : i.toInt < 0 := c1
    refine gw_skip _ ?_
    refine z_C (m := 0) rfl rfl (fun x2 ex2 => ?_)
    refine z_rz (by omega) ?_
    exact K x2 (by omega) (by omega)
  · have c1 : ¬ (i.toInt < 0) := c1
    refine gw_ld rfl rfl ?_
    refine gw_ld rfl rfl ?_
    have r3 := X.2.2.2.2.1
    refine z_gI2 (by decide) (zT X.1 (by decide) rfl) (rfl) ?_
    refine z_b2 (fun c4 => ?_) (fun c4 => ?_)
    · have c4 : ((ez_I h 53 1)).toInt ≤ i.toInt := c4
      refine gw_skip _ ?_
      refine z_C (m := 0) rfl rfl (fun x5 ex5 => ?_)
      refine z_rz (by omega) ?_
      exact K x5 (by omega) (by omega)
    · have c4 : ¬ (((ez_I h 53 1)).toInt ≤ i.toInt) := c4
      refine gw_ld rfl rfl ?_
      refine gw_ld rfl rfl ?_
      refine z_gR (q := 54) (zT X.1 (by decide) rfl) (zRf X.1 (by decide) (by decide) rfl) (by decide) ?_
      refine z_al (n := 6000) (.inl (zT X.1 (by decide) rfl)) (zN X.1 (by decide) rfl) (by omega) (fun x6 ex6 => ?_)
      refine z_b2 (fun c7 => ?_) (fun c7 => ?_)
      · have c7 : x6.toInt ≤ i.toInt := c7
        refine gw_skip _ ?_
        refine z_C (m := 0) rfl rfl (fun x8 ex8 => ?_)
        refine z_rz (by omega) ?_
        exact K x8 (by omega) (by omega)
      · have c7 : ¬ (x6.toInt ≤ i.toInt) := c7
        refine z_C (m := 1) rfl rfl (fun x9 ex9 => ?_)
        refine z_go ?_
        refine gw_skip _ ?_
        refine z_rz (by omega) ?_
        exact K x9 (by omega) (by omega)
set_option maxRecDepth 4000 in
set_option maxHeartbeats 20000000 in
theorem k_padd {E : Nat → Nat × (Nat → Int32)} {d : Nat} {Q : ez_Q} {h : ez_H} {a : Int32} {b : Int32} (X : xI h)  (K : ∀ h2, zF (fun q => q = 53 ∨ q = 54) h h2 → xI h2 → Q (.inl none) h2) : pw E d 124 0 [some (.ref 53), some (.int a), some (.int b)] [] h Q := by
  have ga := z_rng a
  have gb := z_rng b
  have F := zF_refl (fun q => q = 53 ∨ q = 54) h
  apply ez_Wp_in
  show ez_gw _ _ _ _ _ _ (cz_124) _ _ _ _ _
  refine gw_skip _ ?_
  refine gw_ld rfl rfl ?_
  have r1 := X.2.2.2.2.1
  refine z_gI2 (by decide) (zT X.1 (by decide) rfl) (rfl) ?_
  refine z_b1 (fun c2 => ?_) (fun c2 => ?_)
  · have c2 : ((ez_I h 53 1)).toInt < 0 := c2
    refine gw_skip _ ?_
    refine z_rv ?_
    exact K _ F X
  · have c2 : ¬ (((ez_I h 53 1)).toInt < 0) := c2
    refine gw_ld rfl rfl ?_
    refine z_gI2 (by decide) (zT X.1 (by decide) rfl) (rfl) ?_
    refine gw_ld rfl rfl ?_
    refine z_gR (q := 54) (zT X.1 (by decide) rfl) (zRf X.1 (by decide) (by decide) rfl) (by decide) ?_
    refine z_al (n := 6000) (.inl (zT X.1 (by decide) rfl)) (zN X.1 (by decide) rfl) (by omega) (fun x3 ex3 => ?_)
    refine z_b2 (fun c4 => ?_) (fun c4 => ?_)
    · have c4 : x3.toInt ≤ ((ez_I h 53 1)).toInt := c4
      refine gw_skip _ ?_
      refine z_rv ?_
      exact K _ F X
    · have c4 : ¬ (x3.toInt ≤ ((ez_I h 53 1)).toInt) := c4
      refine gw_ld rfl rfl ?_
      refine z_gR (q := 54) (zT X.1 (by decide) rfl) (zRf X.1 (by decide) (by decide) rfl) (by decide) ?_
      refine gw_ld rfl rfl ?_
      refine z_gI2 (by decide) (zT X.1 (by decide) rfl) (rfl) ?_
      refine gw_ld rfl rfl ?_
      refine z_C (m := 9) rfl rfl (fun x5 ex5 => ?_)
      refine z_2 rfl (fun x6 ex6 => ?_)
      have rx6 := z_rng x6
      refine gw_ld rfl rfl ?_
      refine z_C (m := 511) rfl rfl (fun x7 ex7 => ?_)
      refine z_and (fun x8 ex8 ux8 wx8 => ?_)
      have rx8 := z_rng x8
      replace ux8 := ux8 (by omega)
      clear wx8
      refine z_2 rfl (fun x9 ex9 => ?_)
      have rx9 := z_rng x9
      refine z_is (n := 6000) (zT X.1 (by decide) rfl) (zN X.1 (by decide) rfl) (by omega) (fun h10 e11 => ?_)
      have X12 := xI_set X e11 (xW_of (by decide))
      have F13 := zF_set F e11 (by omega)
      have f14 : ez_I h10 53 1 = (ez_I h 53 1) := (zI_ne e11 (by omega)).trans rfl
      refine gw_ld rfl rfl ?_
      refine gw_op rfl ?_
      refine z_gI2 (by decide) (zT X12.1 (by decide) rfl) (f14) ?_
      refine z_C (m := 1) rfl rfl (fun x15 ex15 => ?_)
      first | refine z_add (by omega) (fun x16 ex16 => ?_) | refine z_addW (fun x16 ex16 => ?_)
      have rx16 := z_rng x16
      refine z_pI (zT X12.1 (by decide) rfl) (fun h17 e18 => ?_)
      have X19 := xI_set X12 e18 (⟨fun c => by omega, fun c => by omega, fun c => by omega, fun c => by omega, fun c => by omega, fun c => by omega⟩)
      have F20 := zF_set F13 e18 (by omega)
      have f21 : ez_I h17 53 1 = x16 := zI_eq e18
      refine z_rv ?_
      have t22 := congrArg Int32.toInt f21
      exact K _ F20 X19
set_option maxRecDepth 4000 in
set_option maxHeartbeats 20000000 in
theorem k_amount {E : Nat → Nat × (Nat → Int32)} {d : Nat} {Q : ez_Q} {h : ez_H} {i : Int32} (X : xI h)  (K : ∀ x : Int32, Q (.inl (some (.int x))) h) : pw E (d + 1) 125 0 [some (.ref 53), some (.int i)] [] h Q := by
  have gi := z_rng i
  have F := zF_refl (zX) h
  apply ez_Wp_in
  show ez_gw _ _ _ _ _ _ (cz_125) _ _ _ _ _
  refine gw_skip _ ?_
  refine gw_ld rfl rfl ?_
  refine gw_ld rfl rfl ?_
  refine z_cl rfl rfl rfl rfl rfl rfl rfl rfl rfl rfl rfl (zT X.1 (by decide) rfl) ?_
  refine k_phas X  (fun x1 k2 k3 => ?_)
  have rx1 := z_rng x1
  refine z_b1 (fun c4 => ?_) (fun c4 => ?_)
  · have c4 : x1.toInt = 0 := c4
    refine gw_skip _ ?_
    refine z_C (m := 0) rfl rfl (fun x5 ex5 => ?_)
    refine z_ri ?_
    exact K x5
  · have c4 : ¬ (x1.toInt = 0) := c4
    refine gw_ld rfl rfl ?_
    refine z_gR (q := 54) (zT X.1 (by decide) rfl) (zRf X.1 (by decide) (by decide) rfl) (by decide) ?_
    refine gw_ld rfl rfl ?_
    refine z_ia (n := 6000) (zT X.1 (by decide) rfl) (zN X.1 (by decide) rfl) (by omega) ?_
    generalize ex6 : ez_I h 54 i.toInt.toNat = x6
    have rx6 := z_rng x6
    have qx6 := congrArg Int32.toInt ex6
    refine z_C (m := 511) rfl rfl (fun x7 ex7 => ?_)
    refine z_and (fun x8 ex8 ux8 wx8 => ?_)
    have rx8 := z_rng x8
    replace ux8 := ux8 (by omega)
    clear wx8
    refine z_go ?_
    refine gw_skip _ ?_
    refine z_ri ?_
    exact K x8
set_option maxRecDepth 4000 in
set_option maxHeartbeats 20000000 in
theorem k_dist {E : Nat → Nat × (Nat → Int32)} {d : Nat} {Q : ez_Q} {h : ez_H} {i : Int32} (X : xI h)  (K : ∀ x : Int32, Q (.inl (some (.int x))) h) : pw E (d + 1) 126 0 [some (.ref 53), some (.int i)] [] h Q := by
  have gi := z_rng i
  have F := zF_refl (zX) h
  apply ez_Wp_in
  show ez_gw _ _ _ _ _ _ (cz_126) _ _ _ _ _
  refine gw_skip _ ?_
  refine gw_ld rfl rfl ?_
  refine gw_ld rfl rfl ?_
  refine z_cl rfl rfl rfl rfl rfl rfl rfl rfl rfl rfl rfl (zT X.1 (by decide) rfl) ?_
  refine k_phas X  (fun x1 k2 k3 => ?_)
  have rx1 := z_rng x1
  refine z_b1 (fun c4 => ?_) (fun c4 => ?_)
  · have c4 : x1.toInt = 0 := c4
    refine gw_skip _ ?_
    refine z_C (m := 0) rfl rfl (fun x5 ex5 => ?_)
    refine z_ri ?_
    exact K x5
  · have c4 : ¬ (x1.toInt = 0) := c4
    refine gw_ld rfl rfl ?_
    refine z_gR (q := 54) (zT X.1 (by decide) rfl) (zRf X.1 (by decide) (by decide) rfl) (by decide) ?_
    refine gw_ld rfl rfl ?_
    refine z_ia (n := 6000) (zT X.1 (by decide) rfl) (zN X.1 (by decide) rfl) (by omega) ?_
    generalize ex6 : ez_I h 54 i.toInt.toNat = x6
    have rx6 := z_rng x6
    have qx6 := congrArg Int32.toInt ex6
    refine z_C (m := 9) rfl rfl (fun x7 ex7 => ?_)
    refine z_2 rfl (fun x8 ex8 => ?_)
    have rx8 := z_rng x8
    refine z_go ?_
    refine gw_skip _ ?_
    refine z_ri ?_
    exact K x8
set_option maxRecDepth 4000 in
set_option maxHeartbeats 20000000 in
theorem k_bhas {E : Nat → Nat × (Nat → Int32)} {d : Nat} {Q : ez_Q} {h : ez_H} {i : Int32} (X : xI h)  (K : ∀ x : Int32, (x.toInt = 0 ∨ x.toInt = 1) → (x.toInt = 1 → 0 ≤ i.toInt ∧ i.toInt < 10) → Q (.inl (some (.int x))) h) : pw E d 79 0 [some (.ref 55), some (.int i)] [] h Q := by
  have gi := z_rng i
  have F := zF_refl (zX) h
  apply ez_Wp_in
  show ez_gw _ _ _ _ _ _ (cz_79) _ _ _ _ _
  refine gw_skip _ ?_
  refine gw_ld rfl rfl ?_
  refine z_b1 (fun c1 => ?_) (fun c1 => ?_)
  · have c1 : i.toInt < 0 := c1
    refine gw_skip _ ?_
    refine z_C (m := 0) rfl rfl (fun x2 ex2 => ?_)
    refine z_rz (by omega) ?_
    exact K x2 (by omega) (by omega)
  · have c1 : ¬ (i.toInt < 0) := c1
    refine gw_ld rfl rfl ?_
    refine gw_ld rfl rfl ?_
    have r3 := X.2.2.2.2.2.1
    refine z_gI2 (by decide) (zT X.1 (by decide) rfl) (rfl) ?_
    refine z_b2 (fun c4 => ?_) (fun c4 => ?_)
    · have c4 : ((ez_I h 55 2)).toInt ≤ i.toInt := c4
      refine gw_skip _ ?_
      refine z_C (m := 0) rfl rfl (fun x5 ex5 => ?_)
      refine z_rz (by omega) ?_
      exact K x5 (by omega) (by omega)
    · have c4 : ¬ (((ez_I h 55 2)).toInt ≤ i.toInt) := c4
      refine gw_ld rfl rfl ?_
      refine z_C (m := 10) rfl rfl (fun x6 ex6 => ?_)
      refine z_b2 (fun c7 => ?_) (fun c7 => ?_)
      · have c7 : x6.toInt ≤ i.toInt := c7
        refine gw_skip _ ?_
        refine z_C (m := 0) rfl rfl (fun x8 ex8 => ?_)
        refine z_rz (by omega) ?_
        exact K x8 (by omega) (by omega)
      · have c7 : ¬ (x6.toInt ≤ i.toInt) := c7
        refine z_C (m := 1) rfl rfl (fun x9 ex9 => ?_)
        refine z_go ?_
        refine gw_skip _ ?_
        refine z_rz (by omega) ?_
        exact K x9 (by omega) (by omega)
set_option maxRecDepth 4000 in
set_option maxHeartbeats 20000000 in
theorem k_bbegin {E : Nat → Nat × (Nat → Int32)} {d : Nat} {Q : ez_Q} {h : ez_H} {i : Int32} (X : xI h)  (K : ∀ h2, zF (zX) h h2 → xI h2 → Q (.inl none) h2) : pw E d 74 0 [some (.ref 55), some (.int i)] [] h Q := by
  have gi := z_rng i
  have F := zF_refl (zX) h
  apply ez_Wp_in
  show ez_gw _ _ _ _ _ _ (cz_74) _ _ _ _ _
  refine gw_skip _ ?_
  refine gw_ld rfl rfl ?_
  refine z_C (m := 1) rfl rfl (fun x1 ex1 => ?_)
  refine z_C (m := 10) rfl rfl (fun x2 ex2 => ?_)
  refine gw_ld rfl rfl ?_
  refine z_C (m := 600) rfl rfl (fun x3 ex3 => ?_)
  first | refine z_add (by omega) (fun x4 ex4 => ?_) | refine z_addW (fun x4 ex4 => ?_)
  have rx4 := z_rng x4
  refine z_C (m := 1) rfl rfl (fun x5 ex5 => ?_)
  first | refine z_sub (by omega) (fun x6 ex6 => ?_) | refine z_subW (fun x6 ex6 => ?_)
  have rx6 := z_rng x6
  refine z_C (m := 600) rfl rfl (fun x7 ex7 => ?_)
  refine z_dv (by omega) (fun x8 ex8 => ?_)
  have rx8 := z_rng x8
  refine z_min rfl (fun x9 ex9 => ?_)
  refine z_max rfl (fun x10 ex10 => ?_)
  refine z_pI (zT X.1 (by decide) rfl) (fun h11 e12 => ?_)
  have X13 := xI_set X e12 (⟨fun c => by omega, fun c => by omega, fun c => by omega, fun c => by omega, fun c => by omega, fun c => by omega⟩)
  have F14 := zF_set F e12 (by unfold zX; omega)
  have f15 : ez_I h11 55 2 = x10 := zI_eq e12
  refine z_rv ?_
  have t16 := congrArg Int32.toInt f15
  exact K _ F14 X13
set_option maxRecDepth 4000 in
set_option maxHeartbeats 20000000 in
theorem k_note {E : Nat → Nat × (Nat → Int32)} {d : Nat} {Q : ez_Q} {h : ez_H} {i : Int32} {w : Int32} {v : Int32} (X : xI h)  (K : ∀ h2, zF (fun q => q = 56) h h2 → xI h2 → Q (.inl none) h2) : pw E (d + 1) 75 0 [some (.ref 55), some (.int i), some (.int w), some (.int v)] [] h Q := by
  have gi := z_rng i
  have gw := z_rng w
  have gv := z_rng v
  have F := zF_refl (fun q => q = 56) h
  apply ez_Wp_in
  show ez_gw _ _ _ _ _ _ (cz_75) _ _ _ _ _
  refine gw_skip _ ?_
  refine gw_ld rfl rfl ?_
  refine gw_ld rfl rfl ?_
  refine z_cl rfl rfl rfl rfl rfl rfl rfl rfl rfl rfl rfl (zT X.1 (by decide) rfl) ?_
  refine k_bhas X  (fun x1 k2 k3 => ?_)
  have rx1 := z_rng x1
  refine z_b1 (fun c4 => ?_) (fun c4 => ?_)
  · have c4 : x1.toInt = 0 := c4
    refine gw_skip _ ?_
    refine z_rv ?_
    exact K _ F X
  · have c4 : ¬ (x1.toInt = 0) := c4
    refine gw_ld rfl rfl ?_
    refine z_b1 (fun c5 => ?_) (fun c5 => ?_)
    · have c5 : w.toInt < 0 := c5
      refine gw_skip _ ?_
      refine z_rv ?_
      exact K _ F X
    · have c5 : ¬ (w.toInt < 0) := c5
      refine gw_ld rfl rfl ?_
      refine z_C (m := 6) rfl rfl (fun x6 ex6 => ?_)
      refine z_b2 (fun c7 => ?_) (fun c7 => ?_)
      · have c7 : x6.toInt ≤ w.toInt := c7
        refine gw_skip _ ?_
        refine z_rv ?_
        exact K _ F X
      · have c7 : ¬ (x6.toInt ≤ w.toInt) := c7
        refine gw_ld rfl rfl ?_
        refine z_gR (q := 56) (zT X.1 (by decide) rfl) (zRf X.1 (by decide) (by decide) rfl) (by decide) ?_
        refine gw_ld rfl rfl ?_
        refine z_C (m := 6) rfl rfl (fun x8 ex8 => ?_)
        first | refine z_mulR (c := 6) ex8 (by omega) (fun x9 ex9 => ?_) | refine z_mulW (fun x9 ex9 => ?_)
        have rx9 := z_rng x9
        refine gw_ld rfl rfl ?_
        first | refine z_add (by omega) (fun x10 ex10 => ?_) | refine z_addW (fun x10 ex10 => ?_)
        have rx10 := z_rng x10
        refine gw_ld rfl rfl ?_
        refine z_is (n := 60) (zT X.1 (by decide) rfl) (zN X.1 (by decide) rfl) (by omega) (fun h11 e12 => ?_)
        have X13 := xI_set X e12 (xW_of (by decide))
        have F14 := zF_set F e12 (by omega)
        refine z_rv ?_
        exact K _ F14 X13
set_option maxRecDepth 4000 in
set_option maxHeartbeats 20000000 in
theorem k_fact {E : Nat → Nat × (Nat → Int32)} {d : Nat} {Q : ez_Q} {h : ez_H} {i : Int32} {w : Int32} (X : xI h)  (K : ∀ x : Int32, (x.toInt ≠ -1 → 0 ≤ i.toInt ∧ i.toInt < 10) → Q (.inl (some (.int x))) h) : pw E (d + 1) 76 0 [some (.ref 55), some (.int i), some (.int w)] [] h Q := by
  have gi := z_rng i
  have gw := z_rng w
  have F := zF_refl (zX) h
  apply ez_Wp_in
  show ez_gw _ _ _ _ _ _ (cz_76) _ _ _ _ _
  refine gw_skip _ ?_
  refine gw_ld rfl rfl ?_
  refine gw_ld rfl rfl ?_
  refine z_cl rfl rfl rfl rfl rfl rfl rfl rfl rfl rfl rfl (zT X.1 (by decide) rfl) ?_
  refine k_bhas X  (fun x1 k2 k3 => ?_)
  have rx1 := z_rng x1
  refine z_b1 (fun c4 => ?_) (fun c4 => ?_)
  · have c4 : x1.toInt = 0 := c4
    refine gw_skip _ ?_
    refine z_C (m := -1) rfl rfl (fun x5 ex5 => ?_)
    refine z_ri ?_
    exact K x5 (by omega)
  · have c4 : ¬ (x1.toInt = 0) := c4
    refine gw_ld rfl rfl ?_
    refine z_b1 (fun c6 => ?_) (fun c6 => ?_)
    · have c6 : w.toInt < 0 := c6
      refine gw_skip _ ?_
      refine z_C (m := -1) rfl rfl (fun x7 ex7 => ?_)
      refine z_ri ?_
      exact K x7 (by omega)
    · have c6 : ¬ (w.toInt < 0) := c6
      refine gw_ld rfl rfl ?_
      refine z_C (m := 6) rfl rfl (fun x8 ex8 => ?_)
      refine z_b2 (fun c9 => ?_) (fun c9 => ?_)
      · have c9 : x8.toInt ≤ w.toInt := c9
        refine gw_skip _ ?_
        refine z_C (m := -1) rfl rfl (fun x10 ex10 => ?_)
        refine z_ri ?_
        exact K x10 (by omega)
      · have c9 : ¬ (x8.toInt ≤ w.toInt) := c9
        refine gw_ld rfl rfl ?_
        refine z_gR (q := 56) (zT X.1 (by decide) rfl) (zRf X.1 (by decide) (by decide) rfl) (by decide) ?_
        refine gw_ld rfl rfl ?_
        refine z_C (m := 6) rfl rfl (fun x11 ex11 => ?_)
        first | refine z_mulR (c := 6) ex11 (by omega) (fun x12 ex12 => ?_) | refine z_mulW (fun x12 ex12 => ?_)
        have rx12 := z_rng x12
        refine gw_ld rfl rfl ?_
        first | refine z_add (by omega) (fun x13 ex13 => ?_) | refine z_addW (fun x13 ex13 => ?_)
        have rx13 := z_rng x13
        refine z_ia (n := 60) (zT X.1 (by decide) rfl) (zN X.1 (by decide) rfl) (by omega) ?_
        generalize ex14 : ez_I h 56 x13.toInt.toNat = x14
        have rx14 := z_rng x14
        have qx14 := congrArg Int32.toInt ex14
        refine z_go ?_
        refine gw_skip _ ?_
        refine z_ri ?_
        exact K x14 (by omega)
set_option maxRecDepth 4000 in
set_option maxHeartbeats 20000000 in
theorem k_wbegin {E : Nat → Nat × (Nat → Int32)} {d : Nat} {Q : ez_Q} {h : ez_H}  (X : xI h)  (K : ∀ h2, zF (zX) h h2 → xI h2 → Q (.inl none) h2) : pw E d 68 0 [some (.ref 68)] [] h Q := by
  have F := zF_refl (zX) h
  apply ez_Wp_in
  show ez_gw _ _ _ _ _ _ (cz_68) _ _ _ _ _
  refine gw_skip _ ?_
  refine gw_ld rfl rfl ?_
  refine z_gR (q := 50) (zT X.1 (by decide) rfl) (zRf X.1 (by decide) (by decide) rfl) (by decide) ?_
  refine z_C (m := 0) rfl rfl (fun x1 ex1 => ?_)
  refine z_pI (zT X.1 (by decide) rfl) (fun h2 e3 => ?_)
  have X4 := xI_set X e3 (⟨fun c => by omega, fun c => by omega, fun c => by omega, fun c => by omega, fun c => by omega, fun c => by omega⟩)
  have F5 := zF_set F e3 (by unfold zX; omega)
  have f6 : ez_I h2 50 1 = x1 := zI_eq e3
  refine gw_ld rfl rfl ?_
  refine z_C (m := 0) rfl rfl (fun x7 ex7 => ?_)
  refine z_pI (zT X4.1 (by decide) rfl) (fun h8 e9 => ?_)
  have X10 := xI_set X4 e9 (xW_of (by decide))
  have F11 := zF_set F5 e9 (by unfold zX; omega)
  have f12 : ez_I h8 50 1 = x1 := (zI_ne e9 (by omega)).trans f6
  have f13 : ez_I h8 68 1 = x7 := zI_eq e9
  refine gw_ld rfl rfl ?_
  refine z_C (m := 0) rfl rfl (fun x14 ex14 => ?_)
  refine z_pI (zT X10.1 (by decide) rfl) (fun h15 e16 => ?_)
  have X17 := xI_set X10 e16 (xW_of (by decide))
  have F18 := zF_set F11 e16 (by unfold zX; omega)
  have f19 : ez_I h15 50 1 = x1 := (zI_ne e16 (by omega)).trans f12
  have f20 : ez_I h15 68 1 = x7 := (zI_ne e16 (by omega)).trans f13
  have f21 : ez_I h15 68 2 = x14 := zI_eq e16
  refine z_rv ?_
  have t22 := congrArg Int32.toInt f19
  have t23 := congrArg Int32.toInt f20
  have t24 := congrArg Int32.toInt f21
  exact K _ F18 X17
set_option maxRecDepth 4000 in
set_option maxHeartbeats 20000000 in
theorem k_missing {E : Nat → Nat × (Nat → Int32)} {d : Nat} {Q : ez_Q} {h : ez_H} {i : Int32} (X : xI h)  (K : ∀ x : Int32, (0 ≤ x.toInt ∧ x.toInt ≤ 7) → Q (.inl (some (.int x))) h) : pw E d 69 0 [some (.ref 68), some (.int i)] [] h Q := by
  have gi := z_rng i
  have F := zF_refl (zX) h
  apply ez_Wp_in
  show ez_gw _ _ _ _ _ _ (cz_69) _ _ _ _ _
  refine gw_skip _ ?_
  refine gw_ld rfl rfl ?_
  have r1 := z_rng ((ez_I h 68 2))
  refine z_gI2 (by decide) (zT X.1 (by decide) rfl) (rfl) ?_
  refine gw_ld rfl rfl ?_
  first | refine z_add (by omega) (fun x2 ex2 => ?_) | refine z_addW (fun x2 ex2 => ?_)
  have rx2 := z_rng x2
  refine z_1 rfl (fun x3 ex3 => ?_)
  have rx3 := z_rng x3
  refine z_C (m := 7) rfl rfl (fun x4 ex4 => ?_)
  refine z_and (fun x5 ex5 ux5 wx5 => ?_)
  have rx5 := z_rng x5
  replace ux5 := ux5 (by omega)
  clear wx5
  refine z_ri ?_
  exact K x5 (by omega)
set_option maxRecDepth 4000 in
set_option maxHeartbeats 20000000 in
theorem k_putBits_L {E : Nat → Nat × (Nat → Int32)} {d : Nat} {Q : ez_Q} {h : ez_H} {v : Int32} {n : Int32} (X : xI h)  (K : ∀ h2, zF (fun q => q = 68 ∨ q = 50 ∨ q = 51) h h2 → xI h2 → Q (.inl none) h2) : ∀ N : Nat, (∀ (h2 : ez_H) , zF (fun q => q = 68 ∨ q = 50 ∨ q = 51) h h2 → xI h2 → (True) → ((ez_I h2 68 2).toInt + 2147483648) < (N : Int) → pw E (d + 1) 70 25 [some (.ref 68), some (.int v), some (.int n)] [] h2 Q) := by
  intro N
  induction N with
  | zero => exact fun h2  F X2 hinv hm => absurd hm (by have w0 := z_rng (ez_I h2 68 2); omega)
  | succ N ih =>
    refine fun h2  F X2 hinv hm => ?_
    · skip
      have w0 := z_rng (ez_I h2 68 2)
      have gv := z_rng v
      have gn := z_rng n
      apply ez_Wp_in
      show ez_gw _ _ _ _ _ _ (cz_70) _ _ _ _ _
      refine gw_skip _ ?_
      refine gw_ld rfl rfl ?_
      have r1 := z_rng ((ez_I h2 68 2))
      refine z_gI2 (by decide) (zT X2.1 (by decide) rfl) (rfl) ?_
      refine z_C (m := 8) rfl rfl (fun x2 ex2 => ?_)
      refine z_b2 (fun c3 => ?_) (fun c3 => ?_)
      · have c3 : ((ez_I h2 68 2)).toInt < x2.toInt := c3
        refine gw_skip _ ?_
        refine z_rv ?_
        exact K _ F X2
      · have c3 : ¬ (((ez_I h2 68 2)).toInt < x2.toInt) := c3
        refine gw_ld rfl rfl ?_
        refine z_gR (q := 50) (zT X2.1 (by decide) rfl) (zRf X2.1 (by decide) (by decide) rfl) (by decide) ?_
        refine gw_ld rfl rfl ?_
        have r4 := z_rng ((ez_I h2 68 1))
        refine z_gI2 (by decide) (zT X2.1 (by decide) rfl) (rfl) ?_
        refine z_C (m := 255) rfl rfl (fun x5 ex5 => ?_)
        refine z_and (fun x6 ex6 ux6 wx6 => ?_)
        have rx6 := z_rng x6
        replace ux6 := ux6 (by omega)
        clear wx6
        refine z_cl rfl rfl rfl rfl rfl rfl rfl rfl rfl rfl rfl (zT X2.1 (by decide) rfl) ?_
        refine k_add X2 (p := 50) (by omega) (fun h7 F8 X9 k10 => ?_)
        have F11 := zF_tr F (zF_mono F8 (fun q hq => by first | exact hq | (unfold zX at *; omega) | omega))
        have f12 : ez_I h7 68 2 = (ez_I h2 68 2) := zF_I F8 (by omega) (rfl)
        have f13 : ez_I h7 68 1 = (ez_I h2 68 1) := zF_I F8 (by omega) (rfl)
        refine gw_ld rfl rfl ?_
        refine gw_op rfl ?_
        refine z_gI2 (by decide) (zT X9.1 (by decide) rfl) (f13) ?_
        refine z_C (m := 8) rfl rfl (fun x14 ex14 => ?_)
        refine z_2 rfl (fun x15 ex15 => ?_)
        have rx15 := z_rng x15
        refine z_pI (zT X9.1 (by decide) rfl) (fun h16 e17 => ?_)
        have X18 := xI_set X9 e17 (xW_of (by decide))
        have F19 := zF_set F11 e17 (by omega)
        have f20 : ez_I h16 68 2 = (ez_I h2 68 2) := (zI_ne e17 (by omega)).trans f12
        have f21 : ez_I h16 68 1 = x15 := zI_eq e17
        refine gw_ld rfl rfl ?_
        refine gw_op rfl ?_
        refine z_gI2 (by decide) (zT X18.1 (by decide) rfl) (f20) ?_
        refine z_C (m := 8) rfl rfl (fun x22 ex22 => ?_)
        first | refine z_sub (by omega) (fun x23 ex23 => ?_) | refine z_subW (fun x23 ex23 => ?_)
        have rx23 := z_rng x23
        refine z_pI (zT X18.1 (by decide) rfl) (fun h24 e25 => ?_)
        have X26 := xI_set X18 e25 (xW_of (by decide))
        have F27 := zF_set F19 e25 (by omega)
        have f28 : ez_I h24 68 2 = x23 := zI_eq e25
        have f29 : ez_I h24 68 1 = x15 := (zI_ne e25 (by omega)).trans f21
        refine z_go ?_
        have t30 := congrArg Int32.toInt f28
        have t31 := congrArg Int32.toInt f29
        exact ih _  F27 X26 (by first | trivial | omega) (by omega)
set_option maxRecDepth 4000 in
set_option maxHeartbeats 20000000 in
theorem k_putBits {E : Nat → Nat × (Nat → Int32)} {d : Nat} {Q : ez_Q} {h : ez_H} {v : Int32} {n : Int32} (X : xI h)  (K : ∀ h2, zF (fun q => q = 68 ∨ q = 50 ∨ q = 51) h h2 → xI h2 → Q (.inl none) h2) : pw E (d + 1) 70 0 [some (.ref 68), some (.int v), some (.int n)] [] h Q := by
  have gv := z_rng v
  have gn := z_rng n
  have F := zF_refl (fun q => q = 68 ∨ q = 50 ∨ q = 51) h
  apply ez_Wp_in
  show ez_gw _ _ _ _ _ _ (cz_70) _ _ _ _ _
  refine gw_skip _ ?_
  refine gw_ld rfl rfl ?_
  refine gw_op rfl ?_
  have r1 := z_rng ((ez_I h 68 1))
  refine z_gI2 (by decide) (zT X.1 (by decide) rfl) (rfl) ?_
  refine gw_ld rfl rfl ?_
  refine gw_ld rfl rfl ?_
  have r2 := z_rng ((ez_I h 68 2))
  refine z_gI2 (by decide) (zT X.1 (by decide) rfl) (rfl) ?_
  refine z_2 rfl (fun x3 ex3 => ?_)
  have rx3 := z_rng x3
  refine z_2 rfl (fun x4 ex4 => ?_)
  have rx4 := z_rng x4
  refine z_pI (zT X.1 (by decide) rfl) (fun h5 e6 => ?_)
  have X7 := xI_set X e6 (xW_of (by decide))
  have F8 := zF_set F e6 (by omega)
  have f9 : ez_I h5 68 1 = x4 := zI_eq e6
  have f10 : ez_I h5 68 2 = (ez_I h 68 2) := (zI_ne e6 (by omega)).trans rfl
  refine gw_ld rfl rfl ?_
  refine gw_op rfl ?_
  refine z_gI2 (by decide) (zT X7.1 (by decide) rfl) (f10) ?_
  refine gw_ld rfl rfl ?_
  first | refine z_add (by omega) (fun x11 ex11 => ?_) | refine z_addW (fun x11 ex11 => ?_)
  have rx11 := z_rng x11
  refine z_pI (zT X7.1 (by decide) rfl) (fun h12 e13 => ?_)
  have X14 := xI_set X7 e13 (xW_of (by decide))
  have F15 := zF_set F8 e13 (by omega)
  have f16 : ez_I h12 68 1 = x4 := (zI_ne e13 (by omega)).trans f9
  have f17 : ez_I h12 68 2 = x11 := zI_eq e13
  have t18 := congrArg Int32.toInt f16
  have t19 := congrArg Int32.toInt f17
  exact ez_Wp_out ((k_putBits_L (v := v) (n := n) X K ((((ez_I h12 68 2).toInt + 2147483648)).toNat + 1)) _  F15 X14 (by first | trivial | omega) (by omega))
set_option maxRecDepth 4000 in
set_option maxHeartbeats 20000000 in
theorem k_fillByte {E : Nat → Nat × (Nat → Int32)} {d : Nat} {Q : ez_Q} {h : ez_H}  (X : xI h)  (K : ∀ h2, zF (fun q => q = 68 ∨ q = 50 ∨ q = 51) h h2 → xI h2 → Q (.inl none) h2) : pw E (d + 2) 71 0 [some (.ref 68)] [] h Q := by
  have F := zF_refl (fun q => q = 68 ∨ q = 50 ∨ q = 51) h
  apply ez_Wp_in
  show ez_gw _ _ _ _ _ _ (cz_71) _ _ _ _ _
  refine gw_skip _ ?_
  refine gw_ld rfl rfl ?_
  refine z_C (m := 0) rfl rfl (fun x1 ex1 => ?_)
  refine gw_ld rfl rfl ?_
  refine z_C (m := 0) rfl rfl (fun x2 ex2 => ?_)
  refine z_cl rfl rfl rfl rfl rfl rfl rfl rfl rfl rfl rfl (zT X.1 (by decide) rfl) ?_
  refine k_missing X  (fun x3 k4 => ?_)
  have rx3 := z_rng x3
  refine z_cl rfl rfl rfl rfl rfl rfl rfl rfl rfl rfl rfl (zT X.1 (by decide) rfl) ?_
  refine k_putBits X  (fun h5 F6 X7  => ?_)
  have F8 := zF_tr F (zF_mono F6 (fun q hq => by first | exact hq | (unfold zX at *; omega) | omega))
  refine z_rv ?_
  exact K _ F8 X7
set_option maxRecDepth 4000 in
set_option maxHeartbeats 20000000 in
theorem k_putSymbol {E : Nat → Nat × (Nat → Int32)} {d : Nat} {Q : ez_Q} {h : ez_H} {p : Nat} {i : Int32} (X : xI h) (hp : p = 15 ∨ p = 22 ∨ p = 29 ∨ p = 36 ∨ p = 43) (K : ∀ h2, zF (fun q => q = 68 ∨ q = 50 ∨ q = 51) h h2 → xI h2 → Q (.inl none) h2) : pw E (d + 2) 72 0 [some (.ref 68), some (.ref p), some (.int i)] [] h Q := by
  have gi := z_rng i
  have F := zF_refl (fun q => q = 68 ∨ q = 50 ∨ q = 51) h
  apply ez_Wp_in
  show ez_gw _ _ _ _ _ _ (cz_72) _ _ _ _ _
  refine gw_skip _ ?_
  refine gw_ld rfl rfl ?_
  refine z_b1 (fun c1 => ?_) (fun c1 => ?_)
  · have c1 : i.toInt < 0 := c1
    refine gw_skip _ ?_
    refine z_rv ?_
    exact K _ F X
  · have c1 : ¬ (i.toInt < 0) := c1
    refine gw_ld rfl rfl ?_
    refine z_C (m := 288) rfl rfl (fun x2 ex2 => ?_)
    refine z_b2 (fun c3 => ?_) (fun c3 => ?_)
    · have c3 : x2.toInt ≤ i.toInt := c3
      refine gw_skip _ ?_
      refine z_rv ?_
      exact K _ F X
    · have c3 : ¬ (x2.toInt ≤ i.toInt) := c3
      refine gw_ld rfl rfl ?_
      refine gw_ld rfl rfl ?_
      refine z_gR (q := (p + 2)) ((zCode X.1 hp).1) ((zCode X.1 hp).2.1.2.1) (Nat.succ_ne_zero _) ?_
      refine gw_ld rfl rfl ?_
      refine z_ia (n := 288) ((zCode X.1 hp).2.2.1.2.1) ((zCode X.1 hp).2.2.2.2.1) (by omega) ?_
      generalize ex4 : ez_I h (p + 2) i.toInt.toNat = x4
      have rx4 := z_rng x4
      have qx4 := congrArg Int32.toInt ex4
      refine gw_ld rfl rfl ?_
      refine z_gR (q := (p + 1)) ((zCode X.1 hp).1) ((zCode X.1 hp).2.1.1) (Nat.succ_ne_zero _) ?_
      refine gw_ld rfl rfl ?_
      refine z_ia (n := 288) ((zCode X.1 hp).2.2.1.1) ((zCode X.1 hp).2.2.2.1) (by omega) ?_
      generalize ex5 : ez_I h (p + 1) i.toInt.toNat = x5
      have rx5 := z_rng x5
      have qx5 := congrArg Int32.toInt ex5
      refine z_cl rfl rfl rfl rfl rfl rfl rfl rfl rfl rfl rfl (zT X.1 (by decide) rfl) ?_
      refine k_putBits X  (fun h6 F7 X8  => ?_)
      have F9 := zF_tr F (zF_mono F7 (fun q hq => by first | exact hq | (unfold zX at *; omega) | omega))
      refine z_rv ?_
      exact K _ F9 X8
set_option maxRecDepth 4000 in
set_option maxHeartbeats 20000000 in
theorem k_isCoded {E : Nat → Nat × (Nat → Int32)} {d : Nat} {Q : ez_Q} {h : ez_H} {p : Nat} {i : Int32} (X : xI h) (hp : p = 15 ∨ p = 22 ∨ p = 29 ∨ p = 36 ∨ p = 43) (hi : 0 ≤ i.toInt ∧ i.toInt < 288) (K : ∀ x : Int32, (x.toInt = 0 ∨ x.toInt = 1) → (x.toInt = 1 → 1 ≤ (ez_I h (p + 1) i.toInt.toNat).toInt ∧ (ez_I h (p + 1) i.toInt.toNat).toInt ≤ 15) → Q (.inl (some (.int x))) h) : pw E d 85 0 [some (.ref p), some (.int i)] [] h Q := by
  have gi := z_rng i
  have F := zF_refl (zX) h
  apply ez_Wp_in
  show ez_gw _ _ _ _ _ _ (cz_85) _ _ _ _ _
  refine gw_skip _ ?_
  refine gw_ld rfl rfl ?_
  refine z_gR (q := (p + 1)) ((zCode X.1 hp).1) ((zCode X.1 hp).2.1.1) (Nat.succ_ne_zero _) ?_
  refine gw_ld rfl rfl ?_
  refine z_ia (n := 288) ((zCode X.1 hp).2.2.1.1) ((zCode X.1 hp).2.2.2.1) (by omega) ?_
  generalize ex1 : ez_I h (p + 1) i.toInt.toNat = x1
  have rx1 := z_rng x1
  have qx1 := congrArg Int32.toInt ex1
  refine z_b1 (fun c2 => ?_) (fun c2 => ?_)
  · have c2 : x1.toInt ≤ 0 := c2
    refine gw_skip _ ?_
    refine z_C (m := 0) rfl rfl (fun x3 ex3 => ?_)
    refine z_rz (by omega) ?_
    exact K x3 (by omega) (by omega)
  · have c2 : ¬ (x1.toInt ≤ 0) := c2
    refine gw_ld rfl rfl ?_
    refine z_gR (q := (p + 1)) ((zCode X.1 hp).1) ((zCode X.1 hp).2.1.1) (Nat.succ_ne_zero _) ?_
    refine gw_ld rfl rfl ?_
    refine z_ia (n := 288) ((zCode X.1 hp).2.2.1.1) ((zCode X.1 hp).2.2.2.1) (by omega) ?_
    generalize ex4 : ez_I h (p + 1) i.toInt.toNat = x4
    have rx4 := z_rng x4
    have qx4 := congrArg Int32.toInt ex4
    refine z_C (m := 15) rfl rfl (fun x5 ex5 => ?_)
    refine z_b2 (fun c6 => ?_) (fun c6 => ?_)
    · have c6 : x5.toInt < x4.toInt := c6
      refine gw_skip _ ?_
      refine z_C (m := 0) rfl rfl (fun x7 ex7 => ?_)
      refine z_rz (by omega) ?_
      exact K x7 (by omega) (by omega)
    · have c6 : ¬ (x5.toInt < x4.toInt) := c6
      refine z_C (m := 1) rfl rfl (fun x8 ex8 => ?_)
      refine z_go ?_
      refine gw_skip _ ?_
      refine z_rz (by omega) ?_
      exact K x8 (by omega) (by omega)
set_option maxRecDepth 4000 in
set_option maxHeartbeats 20000000 in
theorem k_turned_L {E : Nat → Nat × (Nat → Int32)} {d : Nat} {Q : ez_Q} {h : ez_H} {a : Int32} {b : Int32} (X : xI h)  (K : ∀ x : Int32, Q (.inl (some (.int x))) h) : ∀ N : Nat, (∀ (c : Int32) (i : Int32), (0 ≤ i.toInt) → 2147483647 - i.toInt < (N : Int) → pw E d 87 4 [some (.int a), some (.int b), some (.int c), some (.int i)] [] h Q) := by
  intro N
  induction N with
  | zero => exact fun c i hinv hm => absurd hm (by have w0 := z_rng i; have w1 := z_rng b; omega)
  | succ N ih =>
    refine fun c i hinv hm => ?_
    · skip
      have w0 := z_rng i
      have w1 := z_rng b
      have ga := z_rng a
      have gb := z_rng b
      apply ez_Wp_in
      show ez_gw _ _ _ _ _ _ (cz_87) _ _ _ _ _
      refine gw_skip _ ?_
      have F := zF_refl zX h
      refine gw_ld rfl rfl ?_
      refine gw_ld rfl rfl ?_
      refine z_b2 (fun c1 => ?_) (fun c1 => ?_)
      · have c1 : b.toInt ≤ i.toInt := c1
        refine gw_skip _ ?_
        refine gw_ld rfl rfl ?_
        refine z_ri ?_
        exact K c
      · have c1 : ¬ (b.toInt ≤ i.toInt) := c1
        refine gw_ld rfl rfl ?_
        refine z_C (m := 1) rfl rfl (fun x2 ex2 => ?_)
        refine z_2 rfl (fun x3 ex3 => ?_)
        have rx3 := z_rng x3
        refine gw_ld rfl rfl ?_
        refine gw_ld rfl rfl ?_
        refine z_2 rfl (fun x4 ex4 => ?_)
        have rx4 := z_rng x4
        refine z_C (m := 1) rfl rfl (fun x5 ex5 => ?_)
        refine z_and (fun x6 ex6 ux6 wx6 => ?_)
        have rx6 := z_rng x6
        replace ux6 := ux6 (by omega)
        clear wx6
        refine z_2 rfl (fun x7 ex7 => ?_)
        have rx7 := z_rng x7
        refine gw_st rfl rfl rfl ?_
        show ez_gw _ _ _ _ _ _ _ _ [some (.int a), some (.int b), some (.int x7), some (.int i)] _ _ _
        first | (refine z_inc rfl (by rw [show (1 : Int32).toInt = 1 from rfl]; omega) (fun x8 ex8 => ?_); rw [show (1 : Int32).toInt = 1 from rfl] at ex8) | refine z_incW rfl (fun x8 ex8 => ?_)
        have rx8 := z_rng x8
        show ez_gw _ _ _ _ _ _ _ _ [some (.int a), some (.int b), some (.int x7), some (.int x8)] _ _ _
        refine z_go ?_
        exact ih x7 x8 (by first | trivial | omega) (by omega)
set_option maxRecDepth 4000 in
set_option maxHeartbeats 20000000 in
theorem k_turned {E : Nat → Nat × (Nat → Int32)} {d : Nat} {Q : ez_Q} {h : ez_H} {a : Int32} {b : Int32} (X : xI h)  (K : ∀ x : Int32, Q (.inl (some (.int x))) h) : pw E d 87 0 [some (.int a), some (.int b), none, none] [] h Q := by
  have ga := z_rng a
  have gb := z_rng b
  have F := zF_refl (zX) h
  apply ez_Wp_in
  show ez_gw _ _ _ _ _ _ (cz_87) _ _ _ _ _
  refine gw_skip _ ?_
  refine z_C (m := 0) rfl rfl (fun x1 ex1 => ?_)
  refine gw_st rfl rfl rfl ?_
  show ez_gw _ _ _ _ _ _ _ _ [some (.int a), some (.int b), some (.int x1), none] _ _ _
  refine z_C (m := 0) rfl rfl (fun x2 ex2 => ?_)
  refine gw_st rfl rfl rfl ?_
  show ez_gw _ _ _ _ _ _ _ _ [some (.int a), some (.int b), some (.int x1), some (.int x2)] _ _ _
  exact ez_Wp_out ((k_turned_L (a := a) (b := b) X K ((2147483647 - x2.toInt).toNat + 1)) x1 x2 (by first | trivial | omega) (by omega))
set_option maxRecDepth 4000 in
set_option maxHeartbeats 20000000 in
theorem k_settleS {E : Nat → Nat × (Nat → Int32)} {d : Nat} {Q : ez_Q} {h : ez_H} {p : Nat} {i : Int32} {n : Int32} (X : xI h) (hp : p = 15 ∨ p = 22 ∨ p = 29 ∨ p = 36 ∨ p = 43) (hi : 0 ≤ i.toInt ∧ i.toInt < 288) (hn : 1 ≤ n.toInt ∧ n.toInt ≤ 15) (K : ∀ h2, zF (fun q => p + 1 ≤ q ∧ q ≤ p + 6 ∨ q = p) h h2 → xI h2 → Q (.inl none) h2) : pw E (d + 1) 86 0 [some (.ref p), some (.int i), some (.int n), none] [] h Q := by
  have gi := z_rng i
  have gn := z_rng n
  have F := zF_refl (fun q => p + 1 ≤ q ∧ q ≤ p + 6 ∨ q = p) h
  apply ez_Wp_in
  show ez_gw _ _ _ _ _ _ (cz_86) _ _ _ _ _
  refine gw_skip _ ?_
  refine gw_ld rfl rfl ?_
  refine z_gR (q := (p + 6)) ((zCode X.1 hp).1) ((zCode X.1 hp).2.1.2.2.2.2.2) (Nat.succ_ne_zero _) ?_
  refine gw_ld rfl rfl ?_
  refine z_ia (n := 16) ((zCode X.1 hp).2.2.1.2.2.2.2.2) ((zCode X.1 hp).2.2.2.2.2.2.2.2) (by omega) ?_
  generalize ex1 : ez_I h (p + 6) n.toInt.toNat = x1
  have rx1 := z_rng x1
  have qx1 := congrArg Int32.toInt ex1
  refine gw_st rfl rfl rfl ?_
  show ez_gw _ _ _ _ _ _ _ _ [some (.ref p), some (.int i), some (.int n), some (.int x1)] _ _ _
  refine gw_ld rfl rfl ?_
  refine z_gR (q := (p + 2)) ((zCode X.1 hp).1) ((zCode X.1 hp).2.1.2.1) (Nat.succ_ne_zero _) ?_
  refine gw_ld rfl rfl ?_
  refine gw_ld rfl rfl ?_
  refine z_gR (q := (p + 5)) ((zCode X.1 hp).1) ((zCode X.1 hp).2.1.2.2.2.2.1) (Nat.succ_ne_zero _) ?_
  refine gw_ld rfl rfl ?_
  refine z_ia (n := 16) ((zCode X.1 hp).2.2.1.2.2.2.2.1) ((zCode X.1 hp).2.2.2.2.2.2.2.1) (by omega) ?_
  generalize ex2 : ez_I h (p + 5) n.toInt.toNat = x2
  have rx2 := z_rng x2
  have qx2 := congrArg Int32.toInt ex2
  refine gw_ld rfl rfl ?_
  refine z_cl rfl rfl rfl rfl rfl rfl rfl rfl rfl rfl rfl (trivial) ?_
  refine k_turned X  (fun x3  => ?_)
  have rx3 := z_rng x3
  refine z_is (n := 288) ((zCode X.1 hp).2.2.1.2.1) ((zCode X.1 hp).2.2.2.2.1) (by omega) (fun h4 e5 => ?_)
  have X6 := xI_set X e5 (⟨fun c => by omega, fun c => by omega, fun c => by omega, fun c => by omega, fun c => by omega, fun c => by omega⟩)
  have F7 := zF_set F e5 (by omega)
  refine gw_ld rfl rfl ?_
  refine z_gR (q := (p + 5)) ((zCode X6.1 hp).1) ((zCode X6.1 hp).2.1.2.2.2.2.1) (Nat.succ_ne_zero _) ?_
  refine gw_ld rfl rfl ?_
  refine gw_op rfl ?_
  refine z_ia (n := 16) ((zCode X6.1 hp).2.2.1.2.2.2.2.1) ((zCode X6.1 hp).2.2.2.2.2.2.2.1) (by omega) ?_
  generalize ex8 : ez_I h4 (p + 5) n.toInt.toNat = x8
  have rx8 := z_rng x8
  have qx8 := congrArg Int32.toInt ex8
  refine z_C (m := 1) rfl rfl (fun x9 ex9 => ?_)
  first | refine z_add (by omega) (fun x10 ex10 => ?_) | refine z_addW (fun x10 ex10 => ?_)
  have rx10 := z_rng x10
  refine z_is (n := 16) ((zCode X6.1 hp).2.2.1.2.2.2.2.1) ((zCode X6.1 hp).2.2.2.2.2.2.2.1) (by omega) (fun h11 e12 => ?_)
  have X13 := xI_set X6 e12 (⟨fun c => by omega, fun c => by omega, fun c => by omega, fun c => by omega, fun c => by omega, fun c => by omega⟩)
  have F14 := zF_set F7 e12 (by omega)
  refine gw_ld rfl rfl ?_
  refine z_b1 (fun c15 => ?_) (fun c15 => ?_)
  · have c15 : x1.toInt < 0 := c15
    refine gw_skip _ ?_
    refine z_rv ?_
    exact K _ F14 X13
  · have c15 : ¬ (x1.toInt < 0) := c15
    refine gw_ld rfl rfl ?_
    refine gw_ld rfl rfl ?_
    refine z_gR (q := (p + 4)) ((zCode X13.1 hp).1) ((zCode X13.1 hp).2.1.2.2.2.1) (Nat.succ_ne_zero _) ?_
    refine z_al (n := 288) (.inl ((zCode X13.1 hp).2.2.1.2.2.2.1)) ((zCode X13.1 hp).2.2.2.2.2.2.1) (by omega) (fun x16 ex16 => ?_)
    refine z_b2 (fun c17 => ?_) (fun c17 => ?_)
    · have c17 : x16.toInt ≤ x1.toInt := c17
      refine gw_skip _ ?_
      refine z_rv ?_
      exact K _ F14 X13
    · have c17 : ¬ (x16.toInt ≤ x1.toInt) := c17
      refine gw_ld rfl rfl ?_
      refine z_gR (q := (p + 4)) ((zCode X13.1 hp).1) ((zCode X13.1 hp).2.1.2.2.2.1) (Nat.succ_ne_zero _) ?_
      refine gw_ld rfl rfl ?_
      refine gw_ld rfl rfl ?_
      refine z_is (n := 288) ((zCode X13.1 hp).2.2.1.2.2.2.1) ((zCode X13.1 hp).2.2.2.2.2.2.1) (by omega) (fun h18 e19 => ?_)
      have X20 := xI_set X13 e19 (⟨fun c => by omega, fun c => by omega, fun c => by omega, fun c => by omega, fun c => by omega, fun c => by omega⟩)
      have F21 := zF_set F14 e19 (by omega)
      refine gw_ld rfl rfl ?_
      refine z_gR (q := (p + 6)) ((zCode X20.1 hp).1) ((zCode X20.1 hp).2.1.2.2.2.2.2) (Nat.succ_ne_zero _) ?_
      refine gw_ld rfl rfl ?_
      refine gw_op rfl ?_
      refine z_ia (n := 16) ((zCode X20.1 hp).2.2.1.2.2.2.2.2) ((zCode X20.1 hp).2.2.2.2.2.2.2.2) (by omega) ?_
      generalize ex22 : ez_I h18 (p + 6) n.toInt.toNat = x22
      have rx22 := z_rng x22
      have qx22 := congrArg Int32.toInt ex22
      refine z_C (m := 1) rfl rfl (fun x23 ex23 => ?_)
      first | refine z_add (by omega) (fun x24 ex24 => ?_) | refine z_addW (fun x24 ex24 => ?_)
      have rx24 := z_rng x24
      refine z_is (n := 16) ((zCode X20.1 hp).2.2.1.2.2.2.2.2) ((zCode X20.1 hp).2.2.2.2.2.2.2.2) (by omega) (fun h25 e26 => ?_)
      have X27 := xI_set X20 e26 (⟨fun c => by omega, fun c => by omega, fun c => by omega, fun c => by omega, fun c => by omega, fun c => by omega⟩)
      have F28 := zF_set F21 e26 (by omega)
      refine z_rv ?_
      exact K _ F28 X27
set_option maxRecDepth 4000 in
set_option maxHeartbeats 20000000 in
theorem k_settle_L {E : Nat → Nat × (Nat → Int32)} {d : Nat} {Q : ez_Q} {h : ez_H} {p : Nat} (X : xI h) (hp : p = 15 ∨ p = 22 ∨ p = 29 ∨ p = 36 ∨ p = 43) (K : ∀ h2, zF (fun q => p + 1 ≤ q ∧ q ≤ p + 6 ∨ q = p) h h2 → xI h2 → Q (.inl none) h2) : ∀ N : Nat, (∀ (h2 : ez_H) (i : Int32) (l2 : Option Value) (l3 : Option Value), zF (fun q => p + 1 ≤ q ∧ q ≤ p + 6 ∨ q = p) h h2 → xI h2 → (0 ≤ i.toInt) → (22147483647 - i.toInt) < (N : Int) → pw E (d + 2) 82 10 [some (.ref p), some (.int i), l2, l3] [] h2 Q) ∧ (∀ (h2 : ez_H) (w : Int32) (c : Int32) (i : Int32), zF (fun q => p + 1 ≤ q ∧ q ≤ p + 6 ∨ q = p) h h2 → xI h2 → (1 ≤ i.toInt ∧ i.toInt ≤ 16) → (12147483647 - i.toInt) < (N : Int) → pw E (d + 2) 82 54 [some (.ref p), some (.int w), some (.int c), some (.int i)] [] h2 Q) ∧ (∀ (h2 : ez_H) (w : Int32) (c : Int32) (i : Int32), zF (fun q => p + 1 ≤ q ∧ q ≤ p + 6 ∨ q = p) h h2 → xI h2 → (0 ≤ i.toInt) → (2147483647 - i.toInt) < (N : Int) → pw E (d + 2) 82 109 [some (.ref p), some (.int w), some (.int c), some (.int i)] [] h2 Q) := by
  intro N
  induction N with
  | zero => exact ⟨fun h2 i l2 l3 F X2 hinv hm => absurd hm (by have w0 := z_rng i; omega), fun h2 w c i F X2 hinv hm => absurd hm (by have w0 := z_rng i; omega), fun h2 w c i F X2 hinv hm => absurd hm (by have w0 := z_rng i; omega)⟩
  | succ N ih =>
    refine ⟨fun h2 i l2 l3 F X2 hinv hm => ?_, fun h2 w c i F X2 hinv hm => ?_, fun h2 w c i F X2 hinv hm => ?_⟩
    · skip
      have w0 := z_rng i
      apply ez_Wp_in
      show ez_gw _ _ _ _ _ _ (cz_82) _ _ _ _ _
      refine gw_skip _ ?_
      refine gw_ld rfl rfl ?_
      refine gw_ld rfl rfl ?_
      refine z_gR (q := (p + 1)) ((zCode X2.1 hp).1) ((zCode X2.1 hp).2.1.1) (Nat.succ_ne_zero _) ?_
      refine z_al (n := 288) (.inl ((zCode X2.1 hp).2.2.1.1)) ((zCode X2.1 hp).2.2.2.1) (by omega) (fun x1 ex1 => ?_)
      refine z_b2 (fun c2 => ?_) (fun c2 => ?_)
      · have c2 : x1.toInt ≤ i.toInt := c2
        refine gw_skip _ ?_
        refine z_C (m := 0) rfl rfl (fun x3 ex3 => ?_)
        refine gw_st rfl rfl rfl ?_
        show ez_gw _ _ _ _ _ _ _ _ [some (.ref p), some (.int x3), l2, l3] _ _ _
        refine z_C (m := 0) rfl rfl (fun x4 ex4 => ?_)
        refine gw_st rfl rfl rfl ?_
        show ez_gw _ _ _ _ _ _ _ _ [some (.ref p), some (.int x3), some (.int x4), l3] _ _ _
        refine z_C (m := 1) rfl rfl (fun x5 ex5 => ?_)
        refine gw_st rfl rfl rfl ?_
        show ez_gw _ _ _ _ _ _ _ _ [some (.ref p), some (.int x3), some (.int x4), some (.int x5)] _ _ _
        exact ez_Wp_out (ih.2.1 _ x3 x4 x5 F X2 (by first | trivial | omega) (by omega))
      · have c2 : ¬ (x1.toInt ≤ i.toInt) := c2
        refine gw_ld rfl rfl ?_
        refine gw_ld rfl rfl ?_
        refine z_cl rfl rfl rfl rfl rfl rfl rfl rfl rfl rfl rfl ((zCode X2.1 hp).1) ?_
        refine k_isCoded X2 (p := p) (by omega) (by omega) (fun x6 k7 k8 => ?_)
        have rx6 := z_rng x6
        refine z_b1 (fun c9 => ?_) (fun c9 => ?_)
        · have c9 : x6.toInt = 0 := c9
          refine gw_skip _ ?_
          first | (refine z_inc rfl (by rw [show (1 : Int32).toInt = 1 from rfl]; omega) (fun x10 ex10 => ?_); rw [show (1 : Int32).toInt = 1 from rfl] at ex10) | refine z_incW rfl (fun x10 ex10 => ?_)
          have rx10 := z_rng x10
          show ez_gw _ _ _ _ _ _ _ _ [some (.ref p), some (.int x10), l2, l3] _ _ _
          refine z_go ?_
          exact ih.1 _ x10 (l2) (l3) F X2 (by first | trivial | omega) (by omega)
        · have c9 : ¬ (x6.toInt = 0) := c9
          refine gw_ld rfl rfl ?_
          refine z_gR (q := (p + 3)) ((zCode X2.1 hp).1) ((zCode X2.1 hp).2.1.2.2.1) (Nat.succ_ne_zero _) ?_
          refine gw_ld rfl rfl ?_
          refine z_gR (q := (p + 1)) ((zCode X2.1 hp).1) ((zCode X2.1 hp).2.1.1) (Nat.succ_ne_zero _) ?_
          refine gw_ld rfl rfl ?_
          refine z_ia (n := 288) ((zCode X2.1 hp).2.2.1.1) ((zCode X2.1 hp).2.2.2.1) (by omega) ?_
          generalize ex11 : ez_I h2 (p + 1) i.toInt.toNat = x11
          have rx11 := z_rng x11
          have qx11 := congrArg Int32.toInt ex11
          refine gw_op rfl ?_
          refine z_ia (n := 16) ((zCode X2.1 hp).2.2.1.2.2.1) ((zCode X2.1 hp).2.2.2.2.2.1) (by omega) ?_
          generalize ex12 : ez_I h2 (p + 3) x11.toInt.toNat = x12
          have rx12 := z_rng x12
          have qx12 := congrArg Int32.toInt ex12
          refine z_C (m := 1) rfl rfl (fun x13 ex13 => ?_)
          first | refine z_add (by omega) (fun x14 ex14 => ?_) | refine z_addW (fun x14 ex14 => ?_)
          have rx14 := z_rng x14
          refine z_is (n := 16) ((zCode X2.1 hp).2.2.1.2.2.1) ((zCode X2.1 hp).2.2.2.2.2.1) (by omega) (fun h15 e16 => ?_)
          have X17 := xI_set X2 e16 (⟨fun c => by omega, fun c => by omega, fun c => by omega, fun c => by omega, fun c => by omega, fun c => by omega⟩)
          have F18 := zF_set F e16 (by omega)
          first | (refine z_inc rfl (by rw [show (1 : Int32).toInt = 1 from rfl]; omega) (fun x19 ex19 => ?_); rw [show (1 : Int32).toInt = 1 from rfl] at ex19) | refine z_incW rfl (fun x19 ex19 => ?_)
          have rx19 := z_rng x19
          show ez_gw _ _ _ _ _ _ _ _ [some (.ref p), some (.int x19), l2, l3] _ _ _
          refine z_go ?_
          exact ih.1 _ x19 (l2) (l3) F18 X17 (by first | trivial | omega) (by omega)
    · skip
      have w0 := z_rng i
      apply ez_Wp_in
      show ez_gw _ _ _ _ _ _ (cz_82) _ _ _ _ _
      refine gw_skip _ ?_
      refine gw_ld rfl rfl ?_
      refine z_C (m := 15) rfl rfl (fun x20 ex20 => ?_)
      refine z_b2 (fun c21 => ?_) (fun c21 => ?_)
      · have c21 : x20.toInt < i.toInt := c21
        refine gw_skip _ ?_
        refine gw_ld rfl rfl ?_
        refine gw_ld rfl rfl ?_
        refine z_pI ((zCode X2.1 hp).1) (fun h22 e23 => ?_)
        have X24 := xI_set X2 e23 (⟨fun c => by omega, fun c => by omega, fun c => by omega, fun c => by omega, fun c => by omega, fun c => by omega⟩)
        have F25 := zF_set F e23 (by omega)
        have f26 : ez_I h22 p 4 = c := zI_eq e23
        refine z_C (m := 0) rfl rfl (fun x27 ex27 => ?_)
        refine gw_st rfl rfl rfl ?_
        show ez_gw _ _ _ _ _ _ _ _ [some (.ref p), some (.int w), some (.int c), some (.int x27)] _ _ _
        have t28 := congrArg Int32.toInt f26
        exact ez_Wp_out (ih.2.2 _ w c x27 F25 X24 (by first | trivial | omega) (by omega))
      · have c21 : ¬ (x20.toInt < i.toInt) := c21
        refine gw_ld rfl rfl ?_
        refine gw_ld rfl rfl ?_
        refine z_gR (q := (p + 3)) ((zCode X2.1 hp).1) ((zCode X2.1 hp).2.1.2.2.1) (Nat.succ_ne_zero _) ?_
        refine gw_ld rfl rfl ?_
        refine z_C (m := 1) rfl rfl (fun x29 ex29 => ?_)
        first | refine z_sub (by omega) (fun x30 ex30 => ?_) | refine z_subW (fun x30 ex30 => ?_)
        have rx30 := z_rng x30
        refine z_ia (n := 16) ((zCode X2.1 hp).2.2.1.2.2.1) ((zCode X2.1 hp).2.2.2.2.2.1) (by omega) ?_
        generalize ex31 : ez_I h2 (p + 3) x30.toInt.toNat = x31
        have rx31 := z_rng x31
        have qx31 := congrArg Int32.toInt ex31
        first | refine z_add (by omega) (fun x32 ex32 => ?_) | refine z_addW (fun x32 ex32 => ?_)
        have rx32 := z_rng x32
        refine z_C (m := 1) rfl rfl (fun x33 ex33 => ?_)
        refine z_2 rfl (fun x34 ex34 => ?_)
        have rx34 := z_rng x34
        refine gw_st rfl rfl rfl ?_
        show ez_gw _ _ _ _ _ _ _ _ [some (.ref p), some (.int x34), some (.int c), some (.int i)] _ _ _
        refine gw_ld rfl rfl ?_
        refine z_gR (q := (p + 5)) ((zCode X2.1 hp).1) ((zCode X2.1 hp).2.1.2.2.2.2.1) (Nat.succ_ne_zero _) ?_
        refine gw_ld rfl rfl ?_
        refine gw_ld rfl rfl ?_
        refine z_is (n := 16) ((zCode X2.1 hp).2.2.1.2.2.2.2.1) ((zCode X2.1 hp).2.2.2.2.2.2.2.1) (by omega) (fun h35 e36 => ?_)
        have X37 := xI_set X2 e36 (⟨fun c => by omega, fun c => by omega, fun c => by omega, fun c => by omega, fun c => by omega, fun c => by omega⟩)
        have F38 := zF_set F e36 (by omega)
        refine gw_ld rfl rfl ?_
        refine z_gR (q := (p + 6)) ((zCode X37.1 hp).1) ((zCode X37.1 hp).2.1.2.2.2.2.2) (Nat.succ_ne_zero _) ?_
        refine gw_ld rfl rfl ?_
        refine gw_ld rfl rfl ?_
        refine z_is (n := 16) ((zCode X37.1 hp).2.2.1.2.2.2.2.2) ((zCode X37.1 hp).2.2.2.2.2.2.2.2) (by omega) (fun h39 e40 => ?_)
        have X41 := xI_set X37 e40 (⟨fun c => by omega, fun c => by omega, fun c => by omega, fun c => by omega, fun c => by omega, fun c => by omega⟩)
        have F42 := zF_set F38 e40 (by omega)
        refine gw_ld rfl rfl ?_
        refine gw_ld rfl rfl ?_
        refine z_gR (q := (p + 3)) ((zCode X41.1 hp).1) ((zCode X41.1 hp).2.1.2.2.1) (Nat.succ_ne_zero _) ?_
        refine gw_ld rfl rfl ?_
        refine z_ia (n := 16) ((zCode X41.1 hp).2.2.1.2.2.1) ((zCode X41.1 hp).2.2.2.2.2.1) (by omega) ?_
        generalize ex43 : ez_I h39 (p + 3) i.toInt.toNat = x43
        have rx43 := z_rng x43
        have qx43 := congrArg Int32.toInt ex43
        first | refine z_add (by omega) (fun x44 ex44 => ?_) | refine z_addW (fun x44 ex44 => ?_)
        have rx44 := z_rng x44
        refine gw_st rfl rfl rfl ?_
        show ez_gw _ _ _ _ _ _ _ _ [some (.ref p), some (.int x34), some (.int x44), some (.int i)] _ _ _
        first | (refine z_inc rfl (by rw [show (1 : Int32).toInt = 1 from rfl]; omega) (fun x45 ex45 => ?_); rw [show (1 : Int32).toInt = 1 from rfl] at ex45) | refine z_incW rfl (fun x45 ex45 => ?_)
        have rx45 := z_rng x45
        show ez_gw _ _ _ _ _ _ _ _ [some (.ref p), some (.int x34), some (.int x44), some (.int x45)] _ _ _
        refine z_go ?_
        exact ih.2.1 _ x34 x44 x45 F42 X41 (by first | trivial | omega) (by omega)
    · skip
      have w0 := z_rng i
      apply ez_Wp_in
      show ez_gw _ _ _ _ _ _ (cz_82) _ _ _ _ _
      refine gw_skip _ ?_
      refine gw_ld rfl rfl ?_
      refine gw_ld rfl rfl ?_
      refine z_gR (q := (p + 1)) ((zCode X2.1 hp).1) ((zCode X2.1 hp).2.1.1) (Nat.succ_ne_zero _) ?_
      refine z_al (n := 288) (.inl ((zCode X2.1 hp).2.2.1.1)) ((zCode X2.1 hp).2.2.2.1) (by omega) (fun x46 ex46 => ?_)
      refine z_b2 (fun c47 => ?_) (fun c47 => ?_)
      · have c47 : x46.toInt ≤ i.toInt := c47
        refine gw_skip _ ?_
        refine z_rv ?_
        exact K _ F X2
      · have c47 : ¬ (x46.toInt ≤ i.toInt) := c47
        refine gw_ld rfl rfl ?_
        refine gw_ld rfl rfl ?_
        refine z_cl rfl rfl rfl rfl rfl rfl rfl rfl rfl rfl rfl ((zCode X2.1 hp).1) ?_
        refine k_isCoded X2 (p := p) (by omega) (by omega) (fun x48 k49 k50 => ?_)
        have rx48 := z_rng x48
        refine z_b1 (fun c51 => ?_) (fun c51 => ?_)
        · have c51 : x48.toInt = 0 := c51
          refine gw_skip _ ?_
          first | (refine z_inc rfl (by rw [show (1 : Int32).toInt = 1 from rfl]; omega) (fun x52 ex52 => ?_); rw [show (1 : Int32).toInt = 1 from rfl] at ex52) | refine z_incW rfl (fun x52 ex52 => ?_)
          have rx52 := z_rng x52
          show ez_gw _ _ _ _ _ _ _ _ [some (.ref p), some (.int w), some (.int c), some (.int x52)] _ _ _
          refine z_go ?_
          exact ih.2.2 _ w c x52 F X2 (by first | trivial | omega) (by omega)
        · have c51 : ¬ (x48.toInt = 0) := c51
          refine gw_ld rfl rfl ?_
          refine gw_ld rfl rfl ?_
          refine gw_ld rfl rfl ?_
          refine z_gR (q := (p + 1)) ((zCode X2.1 hp).1) ((zCode X2.1 hp).2.1.1) (Nat.succ_ne_zero _) ?_
          refine gw_ld rfl rfl ?_
          refine z_ia (n := 288) ((zCode X2.1 hp).2.2.1.1) ((zCode X2.1 hp).2.2.2.1) (by omega) ?_
          generalize ex53 : ez_I h2 (p + 1) i.toInt.toNat = x53
          have rx53 := z_rng x53
          have qx53 := congrArg Int32.toInt ex53
          refine z_cl rfl rfl rfl rfl rfl rfl rfl rfl rfl rfl rfl ((zCode X2.1 hp).1) ?_
          refine k_settleS X2 (p := p) (by omega) (by omega) (by omega) (fun h54 F55 X56  => ?_)
          have F57 := zF_tr F (zF_mono F55 (fun q hq => by first | exact hq | (unfold zX at *; omega) | omega))
          first | (refine z_inc rfl (by rw [show (1 : Int32).toInt = 1 from rfl]; omega) (fun x58 ex58 => ?_); rw [show (1 : Int32).toInt = 1 from rfl] at ex58) | refine z_incW rfl (fun x58 ex58 => ?_)
          have rx58 := z_rng x58
          show ez_gw _ _ _ _ _ _ _ _ [some (.ref p), some (.int w), some (.int c), some (.int x58)] _ _ _
          refine z_go ?_
          exact ih.2.2 _ w c x58 F57 X56 (by first | trivial | omega) (by omega)
set_option maxRecDepth 4000 in
set_option maxHeartbeats 20000000 in
theorem k_settle {E : Nat → Nat × (Nat → Int32)} {d : Nat} {Q : ez_Q} {h : ez_H} {p : Nat} (X : xI h) (hp : p = 15 ∨ p = 22 ∨ p = 29 ∨ p = 36 ∨ p = 43) (K : ∀ h2, zF (fun q => p + 1 ≤ q ∧ q ≤ p + 6 ∨ q = p) h h2 → xI h2 → Q (.inl none) h2) : pw E (d + 2) 82 0 [some (.ref p), none, none, none] [] h Q := by
  have F := zF_refl (fun q => p + 1 ≤ q ∧ q ≤ p + 6 ∨ q = p) h
  apply ez_Wp_in
  show ez_gw _ _ _ _ _ _ (cz_82) _ _ _ _ _
  refine gw_skip _ ?_
  refine gw_ld rfl rfl ?_
  refine z_gR (q := (p + 3)) ((zCode X.1 hp).1) ((zCode X.1 hp).2.1.2.2.1) (Nat.succ_ne_zero _) ?_
  refine z_C (m := 0) rfl rfl (fun x1 ex1 => ?_)
  refine z_cl rfl rfl rfl rfl rfl rfl rfl rfl rfl rfl rfl (trivial) ?_
  refine wp_fill ((zCode X.1 hp).2.2.1.2.2.1) (by rw [(zCode X.1 hp).2.2.2.2.2.1]; first | omega | decide) ?_
  generalize e3 : ez_rowI h (p + 3) (pf_fill (ez_I h (p + 3)) (ez_l h (p + 3)) x1) = h2
  have e3 := e3.symm
  have X4 := xI_row X e3 (by omega)
  have F5 := zF_row F e3 (by omega)
  refine z_C (m := 0) rfl rfl (fun x6 ex6 => ?_)
  refine gw_st rfl rfl rfl ?_
  show ez_gw _ _ _ _ _ _ _ _ [some (.ref p), some (.int x6), none, none] _ _ _
  exact ez_Wp_out ((k_settle_L X hp K (((22147483647 - x6.toInt)).toNat + 1)).1 _ x6 (none) (none) F5 X4 (by first | trivial | omega) (by omega))
set_option maxRecDepth 4000 in
set_option maxHeartbeats 20000000 in
theorem k_isWhole_L {E : Nat → Nat × (Nat → Int32)} {d : Nat} {Q : ez_Q} {h : ez_H} {p : Nat} (X : xI h) (hp : p = 15 ∨ p = 22 ∨ p = 29 ∨ p = 36 ∨ p = 43) (K : ∀ x : Int32, (x.toInt = 0 ∨ x.toInt = 1) → Q (.inl (some (.int x))) h) : ∀ N : Nat, (∀ (c : Int32) (i : Int32), (1 ≤ i.toInt ∧ i.toInt ≤ 16) → (2147483647 - i.toInt) < (N : Int) → pw E d 83 4 [some (.ref p), some (.int c), some (.int i)] [] h Q) := by
  intro N
  induction N with
  | zero => exact fun c i hinv hm => absurd hm (by have w0 := z_rng i; omega)
  | succ N ih =>
    refine fun c i hinv hm => ?_
    · skip
      have w0 := z_rng i
      apply ez_Wp_in
      show ez_gw _ _ _ _ _ _ (cz_83) _ _ _ _ _
      refine gw_skip _ ?_
      have F := zF_refl zX h
      refine gw_ld rfl rfl ?_
      refine z_C (m := 15) rfl rfl (fun x1 ex1 => ?_)
      refine z_b2 (fun c2 => ?_) (fun c2 => ?_)
      · have c2 : x1.toInt < i.toInt := c2
        refine gw_skip _ ?_
        refine gw_ld rfl rfl ?_
        refine z_b1 (fun c3 => ?_) (fun c3 => ?_)
        · have c3 : c.toInt ≠ 0 := c3
          refine gw_skip _ ?_
          refine z_C (m := 0) rfl rfl (fun x4 ex4 => ?_)
          refine z_rz (by omega) ?_
          exact K x4 (by omega)
        · have c3 : ¬ (c.toInt ≠ 0) := c3
          refine z_C (m := 1) rfl rfl (fun x5 ex5 => ?_)
          refine z_go ?_
          refine gw_skip _ ?_
          refine z_rz (by omega) ?_
          exact K x5 (by omega)
      · have c2 : ¬ (x1.toInt < i.toInt) := c2
        refine gw_ld rfl rfl ?_
        refine z_b1 (fun c6 => ?_) (fun c6 => ?_)
        · have c6 : c.toInt < 0 := c6
          refine gw_skip _ ?_
          refine gw_ld rfl rfl ?_
          refine z_b1 (fun c7 => ?_) (fun c7 => ?_)
          · have c7 : c.toInt ≠ 0 := c7
            refine gw_skip _ ?_
            refine z_C (m := 0) rfl rfl (fun x8 ex8 => ?_)
            refine z_rz (by omega) ?_
            exact K x8 (by omega)
          · have c7 : ¬ (c.toInt ≠ 0) := c7
            refine z_C (m := 1) rfl rfl (fun x9 ex9 => ?_)
            refine z_go ?_
            refine gw_skip _ ?_
            refine z_rz (by omega) ?_
            exact K x9 (by omega)
        · have c6 : ¬ (c.toInt < 0) := c6
          refine z_C (m := 2) rfl rfl (fun x10 ex10 => ?_)
          refine gw_ld rfl rfl ?_
          first | refine z_mulL (c := 2) ex10 (by omega) (fun x11 ex11 => ?_) | refine z_mulW (fun x11 ex11 => ?_)
          have rx11 := z_rng x11
          refine gw_ld rfl rfl ?_
          refine z_gR (q := (p + 3)) ((zCode X.1 hp).1) ((zCode X.1 hp).2.1.2.2.1) (Nat.succ_ne_zero _) ?_
          refine gw_ld rfl rfl ?_
          refine z_ia (n := 16) ((zCode X.1 hp).2.2.1.2.2.1) ((zCode X.1 hp).2.2.2.2.2.1) (by omega) ?_
          generalize ex12 : ez_I h (p + 3) i.toInt.toNat = x12
          have rx12 := z_rng x12
          have qx12 := congrArg Int32.toInt ex12
          first | refine z_sub (by omega) (fun x13 ex13 => ?_) | refine z_subW (fun x13 ex13 => ?_)
          have rx13 := z_rng x13
          refine gw_st rfl rfl rfl ?_
          show ez_gw _ _ _ _ _ _ _ _ [some (.ref p), some (.int x13), some (.int i)] _ _ _
          first | (refine z_inc rfl (by rw [show (1 : Int32).toInt = 1 from rfl]; omega) (fun x14 ex14 => ?_); rw [show (1 : Int32).toInt = 1 from rfl] at ex14) | refine z_incW rfl (fun x14 ex14 => ?_)
          have rx14 := z_rng x14
          show ez_gw _ _ _ _ _ _ _ _ [some (.ref p), some (.int x13), some (.int x14)] _ _ _
          refine z_go ?_
          exact ih x13 x14 (by first | trivial | omega) (by omega)
set_option maxRecDepth 4000 in
set_option maxHeartbeats 20000000 in
theorem k_isWhole {E : Nat → Nat × (Nat → Int32)} {d : Nat} {Q : ez_Q} {h : ez_H} {p : Nat} (X : xI h) (hp : p = 15 ∨ p = 22 ∨ p = 29 ∨ p = 36 ∨ p = 43) (K : ∀ x : Int32, (x.toInt = 0 ∨ x.toInt = 1) → Q (.inl (some (.int x))) h) : pw E d 83 0 [some (.ref p), none, none] [] h Q := by
  have F := zF_refl (zX) h
  apply ez_Wp_in
  show ez_gw _ _ _ _ _ _ (cz_83) _ _ _ _ _
  refine gw_skip _ ?_
  refine z_C (m := 1) rfl rfl (fun x1 ex1 => ?_)
  refine gw_st rfl rfl rfl ?_
  show ez_gw _ _ _ _ _ _ _ _ [some (.ref p), some (.int x1), none] _ _ _
  refine z_C (m := 1) rfl rfl (fun x2 ex2 => ?_)
  refine gw_st rfl rfl rfl ?_
  show ez_gw _ _ _ _ _ _ _ _ [some (.ref p), some (.int x1), some (.int x2)] _ _ _
  exact ez_Wp_out ((k_isWhole_L X hp K (((2147483647 - x2.toInt)).toNat + 1)) x1 x2 (by first | trivial | omega) (by omega))
set_option maxRecDepth 4000 in
set_option maxHeartbeats 20000000 in
theorem k_oneBit {E : Nat → Nat × (Nat → Int32)} {d : Nat} {Q : ez_Q} {h : ez_H} {p : Nat} (X : xI h) (hp : p = 15 ∨ p = 22 ∨ p = 29 ∨ p = 36 ∨ p = 43) (K : ∀ x : Int32, (x.toInt = 0 ∨ x.toInt = 1) → Q (.inl (some (.int x))) h) : pw E d 84 0 [some (.ref p)] [] h Q := by
  have F := zF_refl (zX) h
  apply ez_Wp_in
  show ez_gw _ _ _ _ _ _ (cz_84) _ _ _ _ _
  refine gw_skip _ ?_
  refine gw_ld rfl rfl ?_
  have r1 := z_rng ((ez_I h p 4))
  refine z_gI2 (by decide) ((zCode X.1 hp).1) (rfl) ?_
  refine z_b1 (fun c2 => ?_) (fun c2 => ?_)
  · have c2 : ((ez_I h p 4)).toInt = 0 := c2
    refine gw_skip _ ?_
    refine z_C (m := 1) rfl rfl (fun x3 ex3 => ?_)
    refine z_go ?_
    refine gw_skip _ ?_
    refine z_rz (by omega) ?_
    exact K x3 (by omega)
  · have c2 : ¬ (((ez_I h p 4)).toInt = 0) := c2
    refine gw_ld rfl rfl ?_
    refine z_gI2 (by decide) ((zCode X.1 hp).1) (rfl) ?_
    refine z_C (m := 1) rfl rfl (fun x4 ex4 => ?_)
    refine z_b2 (fun c5 => ?_) (fun c5 => ?_)
    · have c5 : ((ez_I h p 4)).toInt ≠ x4.toInt := c5
      refine gw_skip _ ?_
      refine z_C (m := 0) rfl rfl (fun x6 ex6 => ?_)
      refine z_rz (by omega) ?_
      exact K x6 (by omega)
    · have c5 : ¬ (((ez_I h p 4)).toInt ≠ x4.toInt) := c5
      refine gw_ld rfl rfl ?_
      refine z_gR (q := (p + 3)) ((zCode X.1 hp).1) ((zCode X.1 hp).2.1.2.2.1) (Nat.succ_ne_zero _) ?_
      refine z_C (m := 1) rfl rfl (fun x7 ex7 => ?_)
      refine z_ia (n := 16) ((zCode X.1 hp).2.2.1.2.2.1) ((zCode X.1 hp).2.2.2.2.2.1) (by omega) ?_
      generalize ex8 : ez_I h (p + 3) x7.toInt.toNat = x8
      have rx8 := z_rng x8
      have qx8 := congrArg Int32.toInt ex8
      refine z_C (m := 1) rfl rfl (fun x9 ex9 => ?_)
      refine z_b2 (fun c10 => ?_) (fun c10 => ?_)
      · have c10 : x8.toInt ≠ x9.toInt := c10
        refine gw_skip _ ?_
        refine z_C (m := 0) rfl rfl (fun x11 ex11 => ?_)
        refine z_rz (by omega) ?_
        exact K x11 (by omega)
      · have c10 : ¬ (x8.toInt ≠ x9.toInt) := c10
        refine z_C (m := 1) rfl rfl (fun x12 ex12 => ?_)
        refine z_go ?_
        refine gw_skip _ ?_
        refine z_rz (by omega) ?_
        exact K x12 (by omega)
