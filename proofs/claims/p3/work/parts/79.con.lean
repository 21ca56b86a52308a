/-! PRINTED by wip/p17/con7.py: contracts of PackDesk itself -/
set_option maxRecDepth 4000 in
set_option maxHeartbeats 20000000 in
theorem k_putReady_L {E : Nat → Nat × (Nat → Int32)} {d : Nat} {Q : ez_Q} {h : ez_H} {f : Int32} {w : Int32} (X : xI h) (hf : 0 ≤ f.toInt ∧ f.toInt ≤ 16) (K : ∀ h2, zF (zX) h h2 → xI h2 → Q (.inl none) h2) : ∀ N : Nat, (∀ (h2 : ez_H) (i : Int32), zF (zX) h h2 → xI h2 → (0 ≤ i.toInt ∧ i.toInt ≤ 4) → (2147483647 - i.toInt) < (N : Int) → pw E d 20 2 [some (.ref 1), some (.int f), some (.int w), some (.int i)] [] h2 Q) := by
  intro N
  induction N with
  | zero => exact fun h2 i F X2 hinv hm => absurd hm (by have w0 := z_rng i; omega)
  | succ N ih =>
    refine fun h2 i F X2 hinv hm => ?_
    · skip
      have w0 := z_rng i
      have gf := z_rng f
      have gw := z_rng w
      apply ez_Wp_in
      show ez_gw _ _ _ _ _ _ (cz_20) _ _ _ _ _
      refine gw_skip _ ?_
      refine gw_ld rfl rfl ?_
      refine z_C (m := 4) rfl rfl (fun x1 ex1 => ?_)
      refine z_b2 (fun c2 => ?_) (fun c2 => ?_)
      · have c2 : x1.toInt ≤ i.toInt := c2
        refine gw_skip _ ?_
        refine z_rv ?_
        exact K _ F X2
      · have c2 : ¬ (x1.toInt ≤ i.toInt) := c2
        refine gw_ld rfl rfl ?_
        refine gw_ld rfl rfl ?_
        first | refine z_add (by omega) (fun x3 ex3 => ?_) | refine z_addW (fun x3 ex3 => ?_)
        have rx3 := z_rng x3
        refine z_C (m := 20) rfl rfl (fun x4 ex4 => ?_)
        refine z_b2 (fun c5 => ?_) (fun c5 => ?_)
        · have c5 : x4.toInt ≤ x3.toInt := c5
          refine gw_skip _ ?_
          refine z_rv ?_
          exact K _ F X2
        · have c5 : ¬ (x4.toInt ≤ x3.toInt) := c5
          refine gw_ld rfl rfl ?_
          refine z_gR (q := 6) (zT X2.1 (by decide) rfl) (zRf X2.1 (by decide) (by decide) rfl) (by decide) ?_
          refine gw_ld rfl rfl ?_
          refine gw_ld rfl rfl ?_
          first | refine z_add (by omega) (fun x6 ex6 => ?_) | refine z_addW (fun x6 ex6 => ?_)
          have rx6 := z_rng x6
          refine gw_ld rfl rfl ?_
          refine z_C (m := 24) rfl rfl (fun x7 ex7 => ?_)
          refine z_C (m := 8) rfl rfl (fun x8 ex8 => ?_)
          refine gw_ld rfl rfl ?_
          first | refine z_mulL (c := 8) ex8 (by omega) (fun x9 ex9 => ?_) | refine z_mulW (fun x9 ex9 => ?_)
          have rx9 := z_rng x9
          first | refine z_sub (by omega) (fun x10 ex10 => ?_) | refine z_subW (fun x10 ex10 => ?_)
          have rx10 := z_rng x10
          refine z_2 rfl (fun x11 ex11 => ?_)
          have rx11 := z_rng x11
          refine z_C (m := 255) rfl rfl (fun x12 ex12 => ?_)
          refine z_and (fun x13 ex13 ux13 wx13 => ?_)
          have rx13 := z_rng x13
          replace ux13 := ux13 (by omega)
          clear wx13
          refine z_is (n := 20) (zT X2.1 (by decide) rfl) (zN X2.1 (by decide) rfl) (by omega) (fun h14 e15 => ?_)
          have X16 := xI_set X2 e15 (xW_of (by decide))
          have F17 := zF_set F e15 (by unfold zX; omega)
          first | (refine z_inc rfl (by rw [show (1 : Int32).toInt = 1 from rfl]; omega) (fun x18 ex18 => ?_); rw [show (1 : Int32).toInt = 1 from rfl] at ex18) | refine z_incW rfl (fun x18 ex18 => ?_)
          have rx18 := z_rng x18
          show ez_gw _ _ _ _ _ _ _ _ [some (.ref 1), some (.int f), some (.int w), some (.int x18)] _ _ _
          refine z_go ?_
          exact ih _ x18 F17 X16 (by first | trivial | omega) (by omega)
set_option maxRecDepth 4000 in
set_option maxHeartbeats 20000000 in
theorem k_putReady {E : Nat → Nat × (Nat → Int32)} {d : Nat} {Q : ez_Q} {h : ez_H} {f : Int32} {w : Int32} (X : xI h) (hf : 0 ≤ f.toInt ∧ f.toInt ≤ 16) (K : ∀ h2, zF (zX) h h2 → xI h2 → Q (.inl none) h2) : pw E d 20 0 [some (.ref 1), some (.int f), some (.int w), none] [] h Q := by
  have gf := z_rng f
  have gw := z_rng w
  have F := zF_refl (zX) h
  apply ez_Wp_in
  show ez_gw _ _ _ _ _ _ (cz_20) _ _ _ _ _
  refine gw_skip _ ?_
  refine z_C (m := 0) rfl rfl (fun x1 ex1 => ?_)
  refine gw_st rfl rfl rfl ?_
  show ez_gw _ _ _ _ _ _ _ _ [some (.ref 1), some (.int f), some (.int w), some (.int x1)] _ _ _
  exact ez_Wp_out ((k_putReady_L (w := w) X hf K (((2147483647 - x1.toInt)).toNat + 1)) _ x1 F X (by first | trivial | omega) (by omega))
set_option maxRecDepth 4000 in
set_option maxHeartbeats 20000000 in
theorem x_feed {E : Nat → Nat × (Nat → Int32)} {d : Nat} {Q : ez_Q} {h : ez_H} {a0 : Int32} {a1 : Int32} {a2 : Int32} {a3 : Int32} {a4 : Int32} (X : xI h)  (K : ∀ h2, zF (zX) h h2 → xI h2 → Q (.inl none) h2) : pw E (d + 1) 1 0 [some (.ref 1), some (.int a0), some (.int a1), some (.int a2), some (.int a3), some (.int a4)] [] h Q := by
  have ga0 := z_rng a0
  have ga1 := z_rng a1
  have ga2 := z_rng a2
  have ga3 := z_rng a3
  have ga4 := z_rng a4
  have F := zF_refl (zX) h
  apply ez_Wp_in
  show ez_gw _ _ _ _ _ _ (cz_1) _ _ _ _ _
  refine gw_skip _ ?_
  refine gw_ld rfl rfl ?_
  refine z_C (m := 0) rfl rfl (fun x1 ex1 => ?_)
  refine gw_ld rfl rfl ?_
  refine z_cl rfl rfl rfl rfl rfl rfl rfl rfl rfl rfl rfl (zT X.1 (by decide) rfl) ?_
  refine k_putReady X (by omega) (fun h2 F3 X4  => ?_)
  have F5 := zF_tr F (zF_mono F3 (fun q hq => by first | exact hq | (unfold zX at *; omega) | omega))
  refine gw_ld rfl rfl ?_
  refine z_C (m := 4) rfl rfl (fun x6 ex6 => ?_)
  refine gw_ld rfl rfl ?_
  refine z_cl rfl rfl rfl rfl rfl rfl rfl rfl rfl rfl rfl (zT X4.1 (by decide) rfl) ?_
  refine k_putReady X4 (by omega) (fun h7 F8 X9  => ?_)
  have F10 := zF_tr F5 (zF_mono F8 (fun q hq => by first | exact hq | (unfold zX at *; omega) | omega))
  refine gw_ld rfl rfl ?_
  refine z_C (m := 8) rfl rfl (fun x11 ex11 => ?_)
  refine gw_ld rfl rfl ?_
  refine z_cl rfl rfl rfl rfl rfl rfl rfl rfl rfl rfl rfl (zT X9.1 (by decide) rfl) ?_
  refine k_putReady X9 (by omega) (fun h12 F13 X14  => ?_)
  have F15 := zF_tr F10 (zF_mono F13 (fun q hq => by first | exact hq | (unfold zX at *; omega) | omega))
  refine gw_ld rfl rfl ?_
  refine z_C (m := 12) rfl rfl (fun x16 ex16 => ?_)
  refine gw_ld rfl rfl ?_
  refine z_cl rfl rfl rfl rfl rfl rfl rfl rfl rfl rfl rfl (zT X14.1 (by decide) rfl) ?_
  refine k_putReady X14 (by omega) (fun h17 F18 X19  => ?_)
  have F20 := zF_tr F15 (zF_mono F18 (fun q hq => by first | exact hq | (unfold zX at *; omega) | omega))
  refine gw_ld rfl rfl ?_
  refine z_C (m := 16) rfl rfl (fun x21 ex21 => ?_)
  refine gw_ld rfl rfl ?_
  refine z_cl rfl rfl rfl rfl rfl rfl rfl rfl rfl rfl rfl (zT X19.1 (by decide) rfl) ?_
  refine k_putReady X19 (by omega) (fun h22 F23 X24  => ?_)
  have F25 := zF_tr F20 (zF_mono F23 (fun q hq => by first | exact hq | (unfold zX at *; omega) | omega))
  refine z_rv ?_
  exact K _ F25 X24
set_option maxRecDepth 4000 in
set_option maxHeartbeats 20000000 in
theorem x_end_L {E : Nat → Nat × (Nat → Int32)} {d : Nat} {Q : ez_Q} {h : ez_H} {n : Int32} {t : Int32} (X : xI h)  (K : ∀ h2 (x : Int32), zF (zX) h h2 → xI h2 → Q (.inl (some (.int x))) h2) : ∀ N : Nat, (∀ (h2 : ez_H) (i : Int32) (l4 : Option Value), zF (zX) h h2 → xI h2 → (0 ≤ i.toInt ∧ n.toInt ≤ 20) → ((2147483647 - i.toInt) * 100) < (N : Int) → pw E (d + 1) 2 42 [some (.ref 1), some (.int n), some (.int t), some (.int i), l4] [] h2 Q) ∧ (∀ (h2 : ez_H) (i : Int32) (j : Int32), zF (zX) h h2 → xI h2 → (0 ≤ i.toInt ∧ i.toInt < t.toInt ∧ n.toInt ≤ 20 ∧ 0 ≤ j.toInt ∧ j.toInt ≤ 20) → ((2147483647 - i.toInt) * 100 - 50 + (20 - j.toInt)) < (N : Int) → pw E (d + 1) 2 50 [some (.ref 1), some (.int n), some (.int t), some (.int i), some (.int j)] [] h2 Q) := by
  intro N
  induction N with
  | zero => exact ⟨fun h2 i l4 F X2 hinv hm => absurd hm (by have w0 := z_rng i; have w1 := z_rng t; omega), fun h2 i j F X2 hinv hm => absurd hm (by have w0 := z_rng i; have w1 := z_rng t; omega)⟩
  | succ N ih =>
    refine ⟨fun h2 i l4 F X2 hinv hm => ?_, fun h2 i j F X2 hinv hm => ?_⟩
    · skip
      have w0 := z_rng i
      have w1 := z_rng t
      have gn := z_rng n
      have gt := z_rng t
      apply ez_Wp_in
      show ez_gw _ _ _ _ _ _ (cz_2) _ _ _ _ _
      refine gw_skip _ ?_
      refine gw_ld rfl rfl ?_
      refine gw_ld rfl rfl ?_
      refine z_b2 (fun c1 => ?_) (fun c1 => ?_)
      · have c1 : t.toInt ≤ i.toInt := c1
        refine gw_skip _ ?_
        refine gw_ld rfl rfl ?_
        refine z_gR (q := 6) (zT X2.1 (by decide) rfl) (zRf X2.1 (by decide) (by decide) rfl) (by decide) ?_
        refine z_C (m := 0) rfl rfl (fun x2 ex2 => ?_)
        refine z_cl rfl rfl rfl rfl rfl rfl rfl rfl rfl rfl rfl (trivial) ?_
        refine wp_fill (zT X2.1 (by decide) rfl) (by rw [zN X2.1 (by decide) rfl]; first | omega | decide) ?_
        generalize e4 : ez_rowI h2 6 (pf_fill (ez_I h2 6) (ez_l h2 6) x2) = h3
        have e4 := e4.symm
        have X5 := xI_row X2 e4 (by omega)
        have F6 := zF_row F e4 (by unfold zX; omega)
        refine gw_ld rfl rfl ?_
        refine z_gR (q := 2) (zT X5.1 (by decide) rfl) (zRf X5.1 (by decide) (by decide) rfl) (by decide) ?_
        have r7 := X5.2.1
        refine z_gI2 (by decide) (zT X5.1 (by decide) rfl) (rfl) ?_
        refine z_ri ?_
        exact K _ (ez_I h3 2 1) F6 X5
      · have c1 : ¬ (t.toInt ≤ i.toInt) := c1
        refine z_C (m := 0) rfl rfl (fun x8 ex8 => ?_)
        refine gw_st rfl rfl rfl ?_
        show ez_gw _ _ _ _ _ _ _ _ [some (.ref 1), some (.int n), some (.int t), some (.int i), some (.int x8)] _ _ _
        exact ez_Wp_out (ih.2 _ i x8 F X2 (by first | trivial | omega) (by omega))
    · skip
      have w0 := z_rng i
      have w1 := z_rng t
      have gn := z_rng n
      have gt := z_rng t
      apply ez_Wp_in
      show ez_gw _ _ _ _ _ _ (cz_2) _ _ _ _ _
      refine gw_skip _ ?_
      refine gw_ld rfl rfl ?_
      refine gw_ld rfl rfl ?_
      refine z_b2 (fun c9 => ?_) (fun c9 => ?_)
      · have c9 : n.toInt ≤ j.toInt := c9
        refine gw_skip _ ?_
        first | (refine z_inc rfl (by rw [show (1 : Int32).toInt = 1 from rfl]; omega) (fun x10 ex10 => ?_); rw [show (1 : Int32).toInt = 1 from rfl] at ex10) | refine z_incW rfl (fun x10 ex10 => ?_)
        have rx10 := z_rng x10
        show ez_gw _ _ _ _ _ _ _ _ [some (.ref 1), some (.int n), some (.int t), some (.int x10), some (.int j)] _ _ _
        refine z_go ?_
        exact ih.1 _ x10 (some (.int j)) F X2 (by first | trivial | omega) (by omega)
      · have c9 : ¬ (n.toInt ≤ j.toInt) := c9
        refine gw_ld rfl rfl ?_
        refine z_gR (q := 2) (zT X2.1 (by decide) rfl) (zRf X2.1 (by decide) (by decide) rfl) (by decide) ?_
        refine gw_ld rfl rfl ?_
        refine z_gR (q := 6) (zT X2.1 (by decide) rfl) (zRf X2.1 (by decide) (by decide) rfl) (by decide) ?_
        refine gw_ld rfl rfl ?_
        refine z_ia (n := 20) (zT X2.1 (by decide) rfl) (zN X2.1 (by decide) rfl) (by omega) ?_
        generalize ex11 : ez_I h2 6 j.toInt.toNat = x11
        have rx11 := z_rng x11
        have qx11 := congrArg Int32.toInt ex11
        refine z_cl rfl rfl rfl rfl rfl rfl rfl rfl rfl rfl rfl (zT X2.1 (by decide) rfl) ?_
        refine k_add X2 (p := 2) (by omega) (fun h12 F13 X14 k15 => ?_)
        have F16 := zF_tr F (zF_mono F13 (fun q hq => by first | exact hq | (unfold zX at *; omega) | omega))
        first | (refine z_inc rfl (by rw [show (1 : Int32).toInt = 1 from rfl]; omega) (fun x17 ex17 => ?_); rw [show (1 : Int32).toInt = 1 from rfl] at ex17) | refine z_incW rfl (fun x17 ex17 => ?_)
        have rx17 := z_rng x17
        show ez_gw _ _ _ _ _ _ _ _ [some (.ref 1), some (.int n), some (.int t), some (.int i), some (.int x17)] _ _ _
        refine z_go ?_
        exact ih.2 _ i x17 F16 X14 (by first | trivial | omega) (by omega)
set_option maxRecDepth 4000 in
set_option maxHeartbeats 20000000 in
theorem x_end {E : Nat → Nat × (Nat → Int32)} {d : Nat} {Q : ez_Q} {h : ez_H} {n : Int32} {t : Int32} (X : xI h)  (K : ∀ h2 (x : Int32), zF (zX) h h2 → xI h2 → Q (.inl (some (.int x))) h2) : pw E (d + 1) 2 0 [some (.ref 1), some (.int n), some (.int t), none, none] [] h Q := by
  have gn := z_rng n
  have gt := z_rng t
  have F := zF_refl (zX) h
  apply ez_Wp_in
  show ez_gw _ _ _ _ _ _ (cz_2) _ _ _ _ _
  refine gw_skip _ ?_
  refine gw_ld rfl rfl ?_
  refine z_b1 (fun c1 => ?_) (fun c1 => ?_)
  · have c1 : n.toInt < 0 := c1
    refine gw_skip _ ?_
    refine z_C (m := -1) rfl rfl (fun x2 ex2 => ?_)
    refine z_ri ?_
    exact K _ x2 F X
  · have c1 : ¬ (n.toInt < 0) := c1
    refine gw_ld rfl rfl ?_
    refine z_C (m := 20) rfl rfl (fun x3 ex3 => ?_)
    refine z_b2 (fun c4 => ?_) (fun c4 => ?_)
    · have c4 : x3.toInt < n.toInt := c4
      refine gw_skip _ ?_
      refine z_C (m := -1) rfl rfl (fun x5 ex5 => ?_)
      refine z_ri ?_
      exact K _ x5 F X
    · have c4 : ¬ (x3.toInt < n.toInt) := c4
      refine gw_ld rfl rfl ?_
      refine z_C (m := 1) rfl rfl (fun x6 ex6 => ?_)
      refine z_b2 (fun c7 => ?_) (fun c7 => ?_)
      · have c7 : t.toInt < x6.toInt := c7
        refine gw_skip _ ?_
        refine z_C (m := -1) rfl rfl (fun x8 ex8 => ?_)
        refine z_ri ?_
        exact K _ x8 F X
      · have c7 : ¬ (t.toInt < x6.toInt) := c7
        refine gw_ld rfl rfl ?_
        refine z_C (m := 100) rfl rfl (fun x9 ex9 => ?_)
        refine z_b2 (fun c10 => ?_) (fun c10 => ?_)
        · have c10 : x9.toInt < t.toInt := c10
          refine gw_skip _ ?_
          refine z_C (m := -1) rfl rfl (fun x11 ex11 => ?_)
          refine z_ri ?_
          exact K _ x11 F X
        · have c10 : ¬ (x9.toInt < t.toInt) := c10
          refine gw_ld rfl rfl ?_
          refine z_gR (q := 2) (zT X.1 (by decide) rfl) (zRf X.1 (by decide) (by decide) rfl) (by decide) ?_
          have r12 := X.2.1
          refine z_gI2 (by decide) (zT X.1 (by decide) rfl) (rfl) ?_
          refine gw_ld rfl rfl ?_
          refine gw_ld rfl rfl ?_
          refine z_mulW (fun x13 ex13 => ?_)
          have rx13 := z_rng x13
          have qx13 := congrArg Int32.toInt ex13
          refine z_addW (fun x14 ex14 => ?_)
          have rx14 := z_rng x14
          have qx14 := congrArg Int32.toInt ex14
          refine z_C (m := 6000) rfl rfl (fun x15 ex15 => ?_)
          refine z_b2 (fun c16 => ?_) (fun c16 => ?_)
          · have c16 : x14.toInt ≤ x15.toInt := c16
            refine gw_skip _ ?_
            refine z_C (m := 0) rfl rfl (fun x17 ex17 => ?_)
            refine gw_st rfl rfl rfl ?_
            show ez_gw _ _ _ _ _ _ _ _ [some (.ref 1), some (.int n), some (.int t), some (.int x17), none] _ _ _
            exact ez_Wp_out ((x_end_L (n := n) (t := t) X K ((((2147483647 - x17.toInt) * 100)).toNat + 1)).1 _ x17 (none) F X (by first | trivial | omega) (by omega))
          · have c16 : ¬ (x14.toInt ≤ x15.toInt) := c16
            refine z_C (m := -1) rfl rfl (fun x18 ex18 => ?_)
            refine z_ri ?_
            exact K _ x18 F X
set_option maxRecDepth 4000 in
set_option maxHeartbeats 20000000 in
theorem x_cut {E : Nat → Nat × (Nat → Int32)} {d : Nat} {Q : ez_Q} {h : ez_H} {n : Int32} (X : xI h)  (K : ∀ h2 (x : Int32), zF (zX) h h2 → xI h2 → Q (.inl (some (.int x))) h2) : pw E d 3 0 [some (.ref 1), some (.int n)] [] h Q := by
  have gn := z_rng n
  have F := zF_refl (zX) h
  apply ez_Wp_in
  show ez_gw _ _ _ _ _ _ (cz_3) _ _ _ _ _
  refine gw_skip _ ?_
  refine gw_ld rfl rfl ?_
  refine z_b1 (fun c1 => ?_) (fun c1 => ?_)
  · have c1 : n.toInt < 0 := c1
    refine gw_skip _ ?_
    refine z_C (m := 0) rfl rfl (fun x2 ex2 => ?_)
    refine z_rz (by omega) ?_
    exact K _ x2 F X
  · have c1 : ¬ (n.toInt < 0) := c1
    refine gw_ld rfl rfl ?_
    refine gw_ld rfl rfl ?_
    refine z_gR (q := 2) (zT X.1 (by decide) rfl) (zRf X.1 (by decide) (by decide) rfl) (by decide) ?_
    have r3 := X.2.1
    refine z_gI2 (by decide) (zT X.1 (by decide) rfl) (rfl) ?_
    refine z_b2 (fun c4 => ?_) (fun c4 => ?_)
    · have c4 : n.toInt ≤ ((ez_I h 2 1)).toInt := c4
      refine gw_skip _ ?_
      refine gw_ld rfl rfl ?_
      refine z_gR (q := 2) (zT X.1 (by decide) rfl) (zRf X.1 (by decide) (by decide) rfl) (by decide) ?_
      refine gw_ld rfl rfl ?_
      refine z_pI (zT X.1 (by decide) rfl) (fun h5 e6 => ?_)
      have X7 := xI_set X e6 (⟨fun c => by omega, fun c => by omega, fun c => by omega, fun c => by omega, fun c => by omega, fun c => by omega⟩)
      have F8 := zF_set F e6 (by unfold zX; omega)
      have f9 : ez_I h5 2 1 = n := zI_eq e6
      refine z_C (m := 1) rfl rfl (fun x10 ex10 => ?_)
      refine z_rz (by omega) ?_
      have t11 := congrArg Int32.toInt f9
      exact K _ x10 F8 X7
    · have c4 : ¬ (n.toInt ≤ ((ez_I h 2 1)).toInt) := c4
      refine z_C (m := 0) rfl rfl (fun x12 ex12 => ?_)
      refine z_rz (by omega) ?_
      exact K _ x12 F X
set_option maxRecDepth 4000 in
set_option maxHeartbeats 20000000 in
theorem x_flip {E : Nat → Nat × (Nat → Int32)} {d : Nat} {Q : ez_Q} {h : ez_H} {i : Int32} {b : Int32} (X : xI h)  (K : ∀ h2 (x : Int32), zF (zX) h h2 → xI h2 → Q (.inl (some (.int x))) h2) : pw E (d + 1) 4 0 [some (.ref 1), some (.int i), some (.int b)] [] h Q := by
  have gi := z_rng i
  have gb := z_rng b
  have F := zF_refl (zX) h
  apply ez_Wp_in
  show ez_gw _ _ _ _ _ _ (cz_4) _ _ _ _ _
  refine gw_skip _ ?_
  refine gw_ld rfl rfl ?_
  refine z_gR (q := 2) (zT X.1 (by decide) rfl) (zRf X.1 (by decide) (by decide) rfl) (by decide) ?_
  refine gw_ld rfl rfl ?_
  refine z_cl rfl rfl rfl rfl rfl rfl rfl rfl rfl rfl rfl (zT X.1 (by decide) rfl) ?_
  refine k_has X (p := 2) (by omega) (fun x1 k2 k3 => ?_)
  have rx1 := z_rng x1
  refine z_b1 (fun c4 => ?_) (fun c4 => ?_)
  · have c4 : x1.toInt = 0 := c4
    refine gw_skip _ ?_
    refine z_C (m := 0) rfl rfl (fun x5 ex5 => ?_)
    refine z_rz (by omega) ?_
    exact K _ x5 F X
  · have c4 : ¬ (x1.toInt = 0) := c4
    refine gw_ld rfl rfl ?_
    refine z_b1 (fun c6 => ?_) (fun c6 => ?_)
    · have c6 : b.toInt < 0 := c6
      refine gw_skip _ ?_
      refine z_C (m := 0) rfl rfl (fun x7 ex7 => ?_)
      refine z_rz (by omega) ?_
      exact K _ x7 F X
    · have c6 : ¬ (b.toInt < 0) := c6
      refine gw_ld rfl rfl ?_
      refine z_C (m := 7) rfl rfl (fun x8 ex8 => ?_)
      refine z_b2 (fun c9 => ?_) (fun c9 => ?_)
      · have c9 : b.toInt ≤ x8.toInt := c9
        refine gw_skip _ ?_
        refine gw_ld rfl rfl ?_
        refine z_gR (q := 2) (zT X.1 (by decide) rfl) (zRf X.1 (by decide) (by decide) rfl) (by decide) ?_
        refine z_gR (q := 3) (zT X.1 (by decide) rfl) (zRf X.1 (by decide) (by decide) rfl) (by decide) ?_
        refine gw_ld rfl rfl ?_
        refine gw_op rfl ?_
        refine z_ia (n := 6100) (zT X.1 (by decide) rfl) (zN X.1 (by decide) rfl) (by omega) ?_
        generalize ex10 : ez_I h 3 i.toInt.toNat = x10
        have rx10 := z_rng x10
        have qx10 := congrArg Int32.toInt ex10
        refine z_C (m := 1) rfl rfl (fun x11 ex11 => ?_)
        refine gw_ld rfl rfl ?_
        refine z_2 rfl (fun x12 ex12 => ?_)
        have rx12 := z_rng x12
        refine z_2 rfl (fun x13 ex13 => ?_)
        have rx13 := z_rng x13
        refine z_is (n := 6100) (zT X.1 (by decide) rfl) (zN X.1 (by decide) rfl) (by omega) (fun h14 e15 => ?_)
        have X16 := xI_set X e15 (xW_of (by decide))
        have F17 := zF_set F e15 (by unfold zX; omega)
        refine z_C (m := 1) rfl rfl (fun x18 ex18 => ?_)
        refine z_rz (by omega) ?_
        exact K _ x18 F17 X16
      · have c9 : ¬ (b.toInt ≤ x8.toInt) := c9
        refine z_C (m := 0) rfl rfl (fun x19 ex19 => ?_)
        refine z_rz (by omega) ?_
        exact K _ x19 F X
set_option maxRecDepth 4000 in
set_option maxHeartbeats 20000000 in
theorem x_take {E : Nat → Nat × (Nat → Int32)} {d : Nat} {Q : ez_Q} {h : ez_H}  (X : xI h) (hM : zMem h) (Ke : ∀ h2, zF zX h h2 → xI h2 → Q (.inr 1) (ez_bump h2)) (K : ∀ h2 (x : Int32), zF (zX) h h2 → xI h2 → Q (.inl (some (.int x))) h2) : pw E (d + 1) 5 0 [some (.ref 1)] [] h Q := by
  have F := zF_refl (zX) h
  apply ez_Wp_in
  show ez_gw _ _ _ _ _ _ (cz_5) _ _ _ _ _
  refine gw_skip _ ?_
  refine gw_ld rfl rfl ?_
  refine z_gR (q := 4) (zT X.1 (by decide) rfl) (zRf X.1 (by decide) (by decide) rfl) (by decide) ?_
  have r1 := X.2.2.1
  refine z_gI2 (by decide) (zT X.1 (by decide) rfl) (rfl) ?_
  refine z_C (m := 6000) rfl rfl (fun x2 ex2 => ?_)
  refine z_b2 (fun c3 => ?_) (fun c3 => ?_)
  · have c3 : ((ez_I h 4 1)).toInt ≤ x2.toInt := c3
    refine gw_skip _ ?_
    refine gw_ld rfl rfl ?_
    refine z_gR (q := 2) (zT X.1 (by decide) rfl) (zRf X.1 (by decide) (by decide) rfl) (by decide) ?_
    refine gw_ld rfl rfl ?_
    refine z_gR (q := 4) (zT X.1 (by decide) rfl) (zRf X.1 (by decide) (by decide) rfl) (by decide) ?_
    refine z_cl rfl rfl rfl rfl rfl rfl rfl rfl rfl rfl rfl (zT X.1 (by decide) rfl) ?_
    refine k_become X (p := 2) (q := 4) (by omega) (by omega) (by omega) (fun h4 F5 X6  => ?_)
    have F7 := zF_tr F (zF_mono F5 (fun q hq => by first | exact hq | (unfold zX at *; omega) | omega))
    refine gw_ld rfl rfl ?_
    refine z_gR (q := 2) (zT X6.1 (by decide) rfl) (zRf X6.1 (by decide) (by decide) rfl) (by decide) ?_
    have r8 := X6.2.1
    refine z_gI2 (by decide) (zT X6.1 (by decide) rfl) (rfl) ?_
    refine z_ri ?_
    exact K _ (ez_I h4 2 1) F7 X6
  · have c3 : ¬ (((ez_I h 4 1)).toInt ≤ x2.toInt) := c3
    refine z_th (zM F hM) ?_
    exact Ke _ F X
set_option maxRecDepth 4000 in
set_option maxHeartbeats 20000000 in
theorem x_crc_L {E : Nat → Nat × (Nat → Int32)} {d : Nat} {Q : ez_Q} {h : ez_H}  (X : xI h) (hE : zE E) (K : ∀ h2 (x : Int32), zF (zX) h h2 → xI h2 → Q (.inl (some (.int x))) h2) : ∀ N : Nat, (∀ (h2 : ez_H) (c : Int32) (i : Int32), zF (zX) h h2 → xI h2 → (0 ≤ i.toInt) → (2147483647 - i.toInt) < (N : Int) → pw E d 6 4 [some (.ref 1), some (.int c), some (.int i)] [] h2 Q) := by
  intro N
  induction N with
  | zero => exact fun h2 c i F X2 hinv hm => absurd hm (by have w0 := z_rng i; omega)
  | succ N ih =>
    refine fun h2 c i F X2 hinv hm => ?_
    · skip
      have w0 := z_rng i
      apply ez_Wp_in
      show ez_gw _ _ _ _ _ _ (cz_6) _ _ _ _ _
      refine gw_skip _ ?_
      refine gw_ld rfl rfl ?_
      refine gw_ld rfl rfl ?_
      refine z_gR (q := 2) (zT X2.1 (by decide) rfl) (zRf X2.1 (by decide) (by decide) rfl) (by decide) ?_
      have r1 := X2.2.1
      refine z_gI2 (by decide) (zT X2.1 (by decide) rfl) (rfl) ?_
      refine z_b2 (fun c2 => ?_) (fun c2 => ?_)
      · have c2 : ((ez_I h2 2 1)).toInt ≤ i.toInt := c2
        refine gw_skip _ ?_
        refine gw_ld rfl rfl ?_
        refine z_C (m := -1) rfl rfl (fun x3 ex3 => ?_)
        refine z_2 rfl (fun x4 ex4 => ?_)
        have rx4 := z_rng x4
        refine z_ri ?_
        exact K _ x4 F X2
      · have c2 : ¬ (((ez_I h2 2 1)).toInt ≤ i.toInt) := c2
        refine gw_ld rfl rfl ?_
        refine gw_ld rfl rfl ?_
        refine z_gR (q := 2) (zT X2.1 (by decide) rfl) (zRf X2.1 (by decide) (by decide) rfl) (by decide) ?_
        refine z_gR (q := 3) (zT X2.1 (by decide) rfl) (zRf X2.1 (by decide) (by decide) rfl) (by decide) ?_
        refine gw_ld rfl rfl ?_
        refine z_ia (n := 6100) (zT X2.1 (by decide) rfl) (zN X2.1 (by decide) rfl) (by omega) ?_
        generalize ex5 : ez_I h2 3 i.toInt.toNat = x5
        have rx5 := z_rng x5
        have qx5 := congrArg Int32.toInt ex5
        refine z_2 rfl (fun x6 ex6 => ?_)
        have rx6 := z_rng x6
        refine gw_st rfl rfl rfl ?_
        show ez_gw _ _ _ _ _ _ _ _ [some (.ref 1), some (.int x6), some (.int i)] _ _ _
        refine gw_ld rfl rfl ?_
        refine z_C (m := 4) rfl rfl (fun x7 ex7 => ?_)
        refine z_2 rfl (fun x8 ex8 => ?_)
        have rx8 := z_rng x8
        refine z_gs ?_
        refine gw_ld rfl rfl ?_
        refine z_C (m := 15) rfl rfl (fun x9 ex9 => ?_)
        refine z_and (fun x10 ex10 ux10 wx10 => ?_)
        have rx10 := z_rng x10
        replace ux10 := ux10 (by omega)
        clear wx10
        refine z_iaE (n := 16) (hE 0) (by omega) ?_
        generalize ex11 : (tz_ar (0 + 1)).getD x10.toInt.toNat 0 = x11
        have rx11 := z_rng x11
        have qx11 := congrArg Int32.toInt ex11
        refine z_2 rfl (fun x12 ex12 => ?_)
        have rx12 := z_rng x12
        refine gw_st rfl rfl rfl ?_
        show ez_gw _ _ _ _ _ _ _ _ [some (.ref 1), some (.int x12), some (.int i)] _ _ _
        refine gw_ld rfl rfl ?_
        refine z_C (m := 4) rfl rfl (fun x13 ex13 => ?_)
        refine z_2 rfl (fun x14 ex14 => ?_)
        have rx14 := z_rng x14
        refine z_gs ?_
        refine gw_ld rfl rfl ?_
        refine z_C (m := 15) rfl rfl (fun x15 ex15 => ?_)
        refine z_and (fun x16 ex16 ux16 wx16 => ?_)
        have rx16 := z_rng x16
        replace ux16 := ux16 (by omega)
        clear wx16
        refine z_iaE (n := 16) (hE 0) (by omega) ?_
        generalize ex17 : (tz_ar (0 + 1)).getD x16.toInt.toNat 0 = x17
        have rx17 := z_rng x17
        have qx17 := congrArg Int32.toInt ex17
        refine z_2 rfl (fun x18 ex18 => ?_)
        have rx18 := z_rng x18
        refine gw_st rfl rfl rfl ?_
        show ez_gw _ _ _ _ _ _ _ _ [some (.ref 1), some (.int x18), some (.int i)] _ _ _
        first | (refine z_inc rfl (by rw [show (1 : Int32).toInt = 1 from rfl]; omega) (fun x19 ex19 => ?_); rw [show (1 : Int32).toInt = 1 from rfl] at ex19) | refine z_incW rfl (fun x19 ex19 => ?_)
        have rx19 := z_rng x19
        show ez_gw _ _ _ _ _ _ _ _ [some (.ref 1), some (.int x18), some (.int x19)] _ _ _
        refine z_go ?_
        exact ih _ x18 x19 F X2 (by first | trivial | omega) (by omega)
set_option maxRecDepth 4000 in
set_option maxHeartbeats 20000000 in
theorem x_crc {E : Nat → Nat × (Nat → Int32)} {d : Nat} {Q : ez_Q} {h : ez_H}  (X : xI h) (hE : zE E) (K : ∀ h2 (x : Int32), zF (zX) h h2 → xI h2 → Q (.inl (some (.int x))) h2) : pw E d 6 0 [some (.ref 1), none, none] [] h Q := by
  have F := zF_refl (zX) h
  apply ez_Wp_in
  show ez_gw _ _ _ _ _ _ (cz_6) _ _ _ _ _
  refine gw_skip _ ?_
  refine z_C (m := -1) rfl rfl (fun x1 ex1 => ?_)
  refine gw_st rfl rfl rfl ?_
  show ez_gw _ _ _ _ _ _ _ _ [some (.ref 1), some (.int x1), none] _ _ _
  refine z_C (m := 0) rfl rfl (fun x2 ex2 => ?_)
  refine gw_st rfl rfl rfl ?_
  show ez_gw _ _ _ _ _ _ _ _ [some (.ref 1), some (.int x1), some (.int x2)] _ _ _
  exact ez_Wp_out ((x_crc_L X hE K (((2147483647 - x2.toInt)).toNat + 1)) _ x1 x2 F X (by first | trivial | omega) (by omega))
set_option maxRecDepth 4000 in
set_option maxHeartbeats 20000000 in
theorem x_pack {E : Nat → Nat × (Nat → Int32)} {d : Nat} {Q : ez_Q} {h : ez_H}  (X : xI h) (hE : zE E) (K : ∀ h2 (x : Int32), zF (zX) h h2 → xI h2 → Q (.inl (some (.int x))) h2) : pw E (d + 6) 7 0 [some (.ref 1)] [] h Q := by
  have F := zF_refl (zX) h
  apply ez_Wp_in
  show ez_gw _ _ _ _ _ _ (cz_7) _ _ _ _ _
  refine gw_skip _ ?_
  refine gw_ld rfl rfl ?_
  refine z_gR (q := 52) (zT X.1 (by decide) rfl) (zRf X.1 (by decide) (by decide) rfl) (by decide) ?_
  refine gw_ld rfl rfl ?_
  refine z_gR (q := 2) (zT X.1 (by decide) rfl) (zRf X.1 (by decide) (by decide) rfl) (by decide) ?_
  refine z_cl rfl rfl rfl rfl rfl rfl rfl rfl rfl rfl rfl (zT X.1 (by decide) rfl) ?_
  refine k_run X hE (fun h1 F2 X3  => ?_)
  have F4 := zF_tr F (zF_mono F2 (fun q hq => by first | exact hq | (unfold zX at *; omega) | omega))
  refine gw_ld rfl rfl ?_
  refine z_gR (q := 4) (zT X3.1 (by decide) rfl) (zRf X3.1 (by decide) (by decide) rfl) (by decide) ?_
  refine gw_ld rfl rfl ?_
  refine z_gR (q := 52) (zT X3.1 (by decide) rfl) (zRf X3.1 (by decide) (by decide) rfl) (by decide) ?_
  refine z_gR (q := 50) (zT X3.1 (by decide) rfl) (zRf X3.1 (by decide) (by decide) rfl) (by decide) ?_
  refine z_cl rfl rfl rfl rfl rfl rfl rfl rfl rfl rfl rfl (zT X3.1 (by decide) rfl) ?_
  refine k_become X3 (p := 4) (q := 50) (by omega) (by omega) (by omega) (fun h5 F6 X7  => ?_)
  have F8 := zF_tr F4 (zF_mono F6 (fun q hq => by first | exact hq | (unfold zX at *; omega) | omega))
  refine gw_ld rfl rfl ?_
  refine z_gR (q := 4) (zT X7.1 (by decide) rfl) (zRf X7.1 (by decide) (by decide) rfl) (by decide) ?_
  have r9 := X7.2.2.1
  refine z_gI2 (by decide) (zT X7.1 (by decide) rfl) (rfl) ?_
  refine z_ri ?_
  exact K _ (ez_I h5 4 1) F8 X7
set_option maxRecDepth 4000 in
set_option maxHeartbeats 20000000 in
theorem x_parts {E : Nat → Nat × (Nat → Int32)} {d : Nat} {Q : ez_Q} {h : ez_H}  (X : xI h)  (K : ∀ h2 (x : Int32), zF (zX) h h2 → xI h2 → Q (.inl (some (.int x))) h2) : pw E d 8 0 [some (.ref 1)] [] h Q := by
  have F := zF_refl (zX) h
  apply ez_Wp_in
  show ez_gw _ _ _ _ _ _ (cz_8) _ _ _ _ _
  refine gw_skip _ ?_
  refine gw_ld rfl rfl ?_
  refine z_gR (q := 52) (zT X.1 (by decide) rfl) (zRf X.1 (by decide) (by decide) rfl) (by decide) ?_
  refine z_gR (q := 53) (zT X.1 (by decide) rfl) (zRf X.1 (by decide) (by decide) rfl) (by decide) ?_
  have r1 := X.2.2.2.2.1
  refine z_gI2 (by decide) (zT X.1 (by decide) rfl) (rfl) ?_
  refine z_ri ?_
  exact K _ (ez_I h 53 1) F X
set_option maxRecDepth 4000 in
set_option maxHeartbeats 20000000 in
theorem x_part {E : Nat → Nat × (Nat → Int32)} {d : Nat} {Q : ez_Q} {h : ez_H} {k : Int32} {w : Int32} (X : xI h)  (K : ∀ h2 (x : Int32), zF (zX) h h2 → xI h2 → Q (.inl (some (.int x))) h2) : pw E (d + 2) 9 0 [some (.ref 1), some (.int k), some (.int w), none] [] h Q := by
  have gk := z_rng k
  have gw := z_rng w
  have F := zF_refl (zX) h
  apply ez_Wp_in
  show ez_gw _ _ _ _ _ _ (cz_9) _ _ _ _ _
  refine gw_skip _ ?_
  refine gw_ld rfl rfl ?_
  refine z_gR (q := 52) (zT X.1 (by decide) rfl) (zRf X.1 (by decide) (by decide) rfl) (by decide) ?_
  refine z_gR (q := 53) (zT X.1 (by decide) rfl) (zRf X.1 (by decide) (by decide) rfl) (by decide) ?_
  refine gw_st rfl rfl rfl ?_
  show ez_gw _ _ _ _ _ _ _ _ [some (.ref 1), some (.int k), some (.int w), some (.ref 53)] _ _ _
  refine gw_ld rfl rfl ?_
  refine gw_ld rfl rfl ?_
  refine z_cl rfl rfl rfl rfl rfl rfl rfl rfl rfl rfl rfl (zT X.1 (by decide) rfl) ?_
  refine k_phas X  (fun x1 k2 k3 => ?_)
  have rx1 := z_rng x1
  refine z_b1 (fun c4 => ?_) (fun c4 => ?_)
  · have c4 : x1.toInt ≠ 0 := c4
    refine gw_skip _ ?_
    refine gw_ld rfl rfl ?_
    refine gw_jp rfl rfl rfl rfl rfl rfl rfl ?_
    refine ⟨fun c5 => ?_, fun c5 => ?_⟩
    · skip
      refine gw_skip _ ?_
      refine gw_ld rfl rfl ?_
      refine gw_ld rfl rfl ?_
      refine z_cl rfl rfl rfl rfl rfl rfl rfl rfl rfl rfl rfl (zT X.1 (by decide) rfl) ?_
      refine k_amount X  (fun x6  => ?_)
      have rx6 := z_rng x6
      refine z_ri ?_
      exact K _ x6 F X
    refine ⟨fun c7 => ?_, fun c7 => ?_⟩
    · skip
      refine gw_skip _ ?_
      refine gw_ld rfl rfl ?_
      refine gw_ld rfl rfl ?_
      refine z_cl rfl rfl rfl rfl rfl rfl rfl rfl rfl rfl rfl (zT X.1 (by decide) rfl) ?_
      refine k_dist X  (fun x8  => ?_)
      have rx8 := z_rng x8
      refine z_ri ?_
      exact K _ x8 F X
    refine ⟨fun c9 => ?_, fun c9 => ?_⟩
    · skip
      refine gw_skip _ ?_
      refine gw_ld rfl rfl ?_
      refine z_C (m := 600) rfl rfl (fun x10 ex10 => ?_)
      refine z_dv (by omega) (fun x11 ex11 => ?_)
      have rx11 := z_rng x11
      refine z_ri ?_
      exact K _ x11 F X
    refine gw_skip _ ?_
    refine z_C (m := -1) rfl rfl (fun x12 ex12 => ?_)
    refine z_ri ?_
    exact K _ x12 F X
  · have c4 : ¬ (x1.toInt ≠ 0) := c4
    refine z_C (m := -1) rfl rfl (fun x13 ex13 => ?_)
    refine z_ri ?_
    exact K _ x13 F X
set_option maxRecDepth 4000 in
set_option maxHeartbeats 20000000 in
theorem x_blocks {E : Nat → Nat × (Nat → Int32)} {d : Nat} {Q : ez_Q} {h : ez_H}  (X : xI h)  (K : ∀ h2 (x : Int32), zF (zX) h h2 → xI h2 → Q (.inl (some (.int x))) h2) : pw E d 10 0 [some (.ref 1)] [] h Q := by
  have F := zF_refl (zX) h
  apply ez_Wp_in
  show ez_gw _ _ _ _ _ _ (cz_10) _ _ _ _ _
  refine gw_skip _ ?_
  refine gw_ld rfl rfl ?_
  refine z_gR (q := 52) (zT X.1 (by decide) rfl) (zRf X.1 (by decide) (by decide) rfl) (by decide) ?_
  refine z_gR (q := 55) (zT X.1 (by decide) rfl) (zRf X.1 (by decide) (by decide) rfl) (by decide) ?_
  have r1 := X.2.2.2.2.2.1
  refine z_gI2 (by decide) (zT X.1 (by decide) rfl) (rfl) ?_
  refine z_ri ?_
  exact K _ (ez_I h 55 2) F X
set_option maxRecDepth 4000 in
set_option maxHeartbeats 20000000 in
theorem x_block {E : Nat → Nat × (Nat → Int32)} {d : Nat} {Q : ez_Q} {h : ez_H} {k : Int32} {w : Int32} (X : xI h)  (K : ∀ h2 (x : Int32), zF (zX) h h2 → xI h2 → Q (.inl (some (.int x))) h2) : pw E (d + 2) 11 0 [some (.ref 1), some (.int k), some (.int w)] [] h Q := by
  have gk := z_rng k
  have gw := z_rng w
  have F := zF_refl (zX) h
  apply ez_Wp_in
  show ez_gw _ _ _ _ _ _ (cz_11) _ _ _ _ _
  refine gw_skip _ ?_
  refine gw_ld rfl rfl ?_
  refine z_gR (q := 52) (zT X.1 (by decide) rfl) (zRf X.1 (by decide) (by decide) rfl) (by decide) ?_
  refine z_gR (q := 55) (zT X.1 (by decide) rfl) (zRf X.1 (by decide) (by decide) rfl) (by decide) ?_
  refine gw_ld rfl rfl ?_
  refine gw_ld rfl rfl ?_
  refine z_cl rfl rfl rfl rfl rfl rfl rfl rfl rfl rfl rfl (zT X.1 (by decide) rfl) ?_
  refine k_fact X  (fun x1 k2 => ?_)
  have rx1 := z_rng x1
  refine z_ri ?_
  exact K _ x1 F X
set_option maxRecDepth 4000 in
set_option maxHeartbeats 20000000 in
theorem x_code {E : Nat → Nat × (Nat → Int32)} {d : Nat} {Q : ez_Q} {h : ez_H} {k : Int32} {w : Int32} {y : Int32} (X : xI h) (hE : zE E) (K : ∀ h2 (x : Int32), zF (zX) h h2 → xI h2 → Q (.inl (some (.int x))) h2) : pw E (d + 3) 12 0 [some (.ref 1), some (.int k), some (.int w), some (.int y)] [] h Q := by
  have gk := z_rng k
  have gw := z_rng w
  have gy := z_rng y
  have F := zF_refl (zX) h
  apply ez_Wp_in
  show ez_gw _ _ _ _ _ _ (cz_12) _ _ _ _ _
  refine gw_skip _ ?_
  refine gw_ld rfl rfl ?_
  refine z_gR (q := 52) (zT X.1 (by decide) rfl) (zRf X.1 (by decide) (by decide) rfl) (by decide) ?_
  refine z_gR (q := 55) (zT X.1 (by decide) rfl) (zRf X.1 (by decide) (by decide) rfl) (by decide) ?_
  refine gw_ld rfl rfl ?_
  refine gw_ld rfl rfl ?_
  refine gw_ld rfl rfl ?_
  refine z_cl rfl rfl rfl rfl rfl rfl rfl rfl rfl rfl rfl (zT X.1 (by decide) rfl) ?_
  refine k_codeL X hE (fun x1  => ?_)
  have rx1 := z_rng x1
  refine z_ri ?_
  exact K _ x1 F X
set_option maxRecDepth 4000 in
set_option maxHeartbeats 20000000 in
theorem x_unpack_L {E : Nat → Nat × (Nat → Int32)} {d : Nat} {Q : ez_Q} {h : ez_H}  (X : xI h) (hE : zE E) (hM : zMem h) (Ke : ∀ h2, zF zX h h2 → xI h2 → Q (.inr 2) (ez_bump h2)) (K : ∀ h2 (x : Int32), zF (zX) h h2 → xI h2 → Q (.inl (some (.int x))) h2) : ∀ N : Nat, (∀ (h2 : ez_H) (i : Int32), zF (zX) h h2 → xI h2 → (0 ≤ i.toInt) → (2147483647 - i.toInt) < (N : Int) → pw E (d + 6) 13 9 [some (.ref 1), some (.int i)] [] h2 Q) := by
  intro N
  induction N with
  | zero => exact fun h2 i F X2 hinv hm => absurd hm (by have w0 := z_rng i; omega)
  | succ N ih =>
    refine fun h2 i F X2 hinv hm => ?_
    · skip
      have w0 := z_rng i
      apply ez_Wp_in
      show ez_gw _ _ _ _ _ _ (cz_13) _ _ _ _ _
      refine gw_skip _ ?_
      refine gw_ld rfl rfl ?_
      refine z_C (m := 48000) rfl rfl (fun x1 ex1 => ?_)
      refine z_b2 (fun c2 => ?_) (fun c2 => ?_)
      · have c2 : x1.toInt < i.toInt := c2
        refine gw_skip _ ?_
        refine gw_ld rfl rfl ?_
        refine z_gR (q := 4) (zT X2.1 (by decide) rfl) (zRf X2.1 (by decide) (by decide) rfl) (by decide) ?_
        refine gw_ld rfl rfl ?_
        refine z_gR (q := 69) (zT X2.1 (by decide) rfl) (zRf X2.1 (by decide) (by decide) rfl) (by decide) ?_
        refine z_gR (q := 50) (zT X2.1 (by decide) rfl) (zRf X2.1 (by decide) (by decide) rfl) (by decide) ?_
        refine z_cl rfl rfl rfl rfl rfl rfl rfl rfl rfl rfl rfl (zT X2.1 (by decide) rfl) ?_
        refine k_become X2 (p := 4) (q := 50) (by omega) (by omega) (by omega) (fun h3 F4 X5  => ?_)
        have F6 := zF_tr F (zF_mono F4 (fun q hq => by first | exact hq | (unfold zX at *; omega) | omega))
        refine gw_ld rfl rfl ?_
        refine z_gR (q := 4) (zT X5.1 (by decide) rfl) (zRf X5.1 (by decide) (by decide) rfl) (by decide) ?_
        have r7 := X5.2.2.1
        refine z_gI2 (by decide) (zT X5.1 (by decide) rfl) (rfl) ?_
        refine z_ri ?_
        exact K _ (ez_I h3 4 1) F6 X5
      · have c2 : ¬ (x1.toInt < i.toInt) := c2
        refine gw_ld rfl rfl ?_
        refine z_gR (q := 69) (zT X2.1 (by decide) rfl) (zRf X2.1 (by decide) (by decide) rfl) (by decide) ?_
        have r8 := z_rng ((ez_I h2 69 1))
        refine z_gI2 (by decide) (zT X2.1 (by decide) rfl) (rfl) ?_
        refine z_b1 (fun c9 => ?_) (fun c9 => ?_)
        · have c9 : ((ez_I h2 69 1)).toInt ≠ 0 := c9
          refine gw_skip _ ?_
          refine gw_ld rfl rfl ?_
          refine z_gR (q := 4) (zT X2.1 (by decide) rfl) (zRf X2.1 (by decide) (by decide) rfl) (by decide) ?_
          refine gw_ld rfl rfl ?_
          refine z_gR (q := 69) (zT X2.1 (by decide) rfl) (zRf X2.1 (by decide) (by decide) rfl) (by decide) ?_
          refine z_gR (q := 50) (zT X2.1 (by decide) rfl) (zRf X2.1 (by decide) (by decide) rfl) (by decide) ?_
          refine z_cl rfl rfl rfl rfl rfl rfl rfl rfl rfl rfl rfl (zT X2.1 (by decide) rfl) ?_
          refine k_become X2 (p := 4) (q := 50) (by omega) (by omega) (by omega) (fun h10 F11 X12  => ?_)
          have F13 := zF_tr F (zF_mono F11 (fun q hq => by first | exact hq | (unfold zX at *; omega) | omega))
          refine gw_ld rfl rfl ?_
          refine z_gR (q := 4) (zT X12.1 (by decide) rfl) (zRf X12.1 (by decide) (by decide) rfl) (by decide) ?_
          have r14 := X12.2.2.1
          refine z_gI2 (by decide) (zT X12.1 (by decide) rfl) (rfl) ?_
          refine z_ri ?_
          exact K _ (ez_I h10 4 1) F13 X12
        · have c9 : ¬ (((ez_I h2 69 1)).toInt ≠ 0) := c9
          refine gw_ld rfl rfl ?_
          refine z_gR (q := 69) (zT X2.1 (by decide) rfl) (zRf X2.1 (by decide) (by decide) rfl) (by decide) ?_
          refine gw_ld rfl rfl ?_
          refine z_gR (q := 2) (zT X2.1 (by decide) rfl) (zRf X2.1 (by decide) (by decide) rfl) (by decide) ?_
          refine z_cl rfl rfl rfl rfl rfl rfl rfl rfl rfl rfl rfl (zT X2.1 (by decide) rfl) ?_
          refine k_rBlock X2 hE (zM F hM) (fun hh FF XX => Ke _ (zF_tr F FF) XX) (fun h15 F16 X17 => ?_)
          have F18 := zF_tr F (zF_mono F16 (fun q hq => by first | exact hq | (unfold zX at *; omega) | omega))
          first | (refine z_inc rfl (by rw [show (1 : Int32).toInt = 1 from rfl]; omega) (fun x19 ex19 => ?_); rw [show (1 : Int32).toInt = 1 from rfl] at ex19) | refine z_incW rfl (fun x19 ex19 => ?_)
          have rx19 := z_rng x19
          show ez_gw _ _ _ _ _ _ _ _ [some (.ref 1), some (.int x19)] _ _ _
          refine z_go ?_
          exact ih _ x19 F18 X17 (by first | trivial | omega) (by omega)
set_option maxRecDepth 4000 in
set_option maxHeartbeats 20000000 in
theorem x_unpack {E : Nat → Nat × (Nat → Int32)} {d : Nat} {Q : ez_Q} {h : ez_H}  (X : xI h) (hE : zE E) (hM : zMem h) (Ke : ∀ h2, zF zX h h2 → xI h2 → Q (.inr 2) (ez_bump h2)) (K : ∀ h2 (x : Int32), zF (zX) h h2 → xI h2 → Q (.inl (some (.int x))) h2) : pw E (d + 6) 13 0 [some (.ref 1), none] [] h Q := by
  have F := zF_refl (zX) h
  apply ez_Wp_in
  show ez_gw _ _ _ _ _ _ (cz_13) _ _ _ _ _
  refine gw_skip _ ?_
  refine gw_ld rfl rfl ?_
  refine z_gR (q := 69) (zT X.1 (by decide) rfl) (zRf X.1 (by decide) (by decide) rfl) (by decide) ?_
  refine z_cl rfl rfl rfl rfl rfl rfl rfl rfl rfl rfl rfl (zT X.1 (by decide) rfl) ?_
  refine k_ubegin X  (fun h1 F2 X3  => ?_)
  have F4 := zF_tr F (zF_mono F2 (fun q hq => by first | exact hq | (unfold zX at *; omega) | omega))
  refine z_C (m := 0) rfl rfl (fun x5 ex5 => ?_)
  refine gw_st rfl rfl rfl ?_
  show ez_gw _ _ _ _ _ _ _ _ [some (.ref 1), some (.int x5)] _ _ _
  exact ez_Wp_out ((x_unpack_L X hE hM Ke K (((2147483647 - x5.toInt)).toNat + 1)) _ x5 F4 X3 (by first | trivial | omega) (by omega))
set_option maxRecDepth 4000 in
set_option maxHeartbeats 20000000 in
theorem x_fault {E : Nat → Nat × (Nat → Int32)} {d : Nat} {Q : ez_Q} {h : ez_H} {w : Int32} (X : xI h)  (K : ∀ h2 (x : Int32), zF (zX) h h2 → xI h2 → Q (.inl (some (.int x))) h2) : pw E d 14 0 [some (.ref 1), some (.int w)] [] h Q := by
  have gw := z_rng w
  have F := zF_refl (zX) h
  apply ez_Wp_in
  show ez_gw _ _ _ _ _ _ (cz_14) _ _ _ _ _
  refine gw_skip _ ?_
  refine gw_ld rfl rfl ?_
  refine gw_jp rfl rfl rfl rfl rfl rfl rfl ?_
  refine ⟨fun c1 => ?_, fun c1 => ?_⟩
  · skip
    refine gw_skip _ ?_
    refine gw_ld rfl rfl ?_
    refine z_gR (q := 69) (zT X.1 (by decide) rfl) (zRf X.1 (by decide) (by decide) rfl) (by decide) ?_
    have r2 := z_rng ((ez_I h 69 2))
    refine z_gI2 (by decide) (zT X.1 (by decide) rfl) (rfl) ?_
    refine z_ri ?_
    exact K _ (ez_I h 69 2) F X
  refine ⟨fun c3 => ?_, fun c3 => ?_⟩
  · skip
    refine gw_skip _ ?_
    refine gw_ld rfl rfl ?_
    refine z_gR (q := 69) (zT X.1 (by decide) rfl) (zRf X.1 (by decide) (by decide) rfl) (by decide) ?_
    have r4 := z_rng ((ez_I h 69 3))
    refine z_gI2 (by decide) (zT X.1 (by decide) rfl) (rfl) ?_
    refine z_ri ?_
    exact K _ (ez_I h 69 3) F X
  refine gw_skip _ ?_
  refine z_C (m := -1) rfl rfl (fun x5 ex5 => ?_)
  refine z_ri ?_
  exact K _ x5 F X
set_option maxRecDepth 4000 in
set_option maxHeartbeats 20000000 in
theorem x_output {E : Nat → Nat × (Nat → Int32)} {d : Nat} {Q : ez_Q} {h : ez_H} {i : Int32} (X : xI h)  (K : ∀ h2 (x : Int32), zF (zX) h h2 → xI h2 → Q (.inl (some (.int x))) h2) : pw E (d + 1) 15 0 [some (.ref 1), some (.int i)] [] h Q := by
  have gi := z_rng i
  have F := zF_refl (zX) h
  apply ez_Wp_in
  show ez_gw _ _ _ _ _ _ (cz_15) _ _ _ _ _
  refine gw_skip _ ?_
  refine gw_ld rfl rfl ?_
  refine z_gR (q := 4) (zT X.1 (by decide) rfl) (zRf X.1 (by decide) (by decide) rfl) (by decide) ?_
  refine gw_ld rfl rfl ?_
  refine z_cl rfl rfl rfl rfl rfl rfl rfl rfl rfl rfl rfl (zT X.1 (by decide) rfl) ?_
  refine k_has X (p := 4) (by omega) (fun x1 k2 k3 => ?_)
  have rx1 := z_rng x1
  refine z_b1 (fun c4 => ?_) (fun c4 => ?_)
  · have c4 : x1.toInt = 0 := c4
    refine gw_skip _ ?_
    refine z_C (m := -1) rfl rfl (fun x5 ex5 => ?_)
    refine z_ri ?_
    exact K _ x5 F X
  · have c4 : ¬ (x1.toInt = 0) := c4
    refine gw_ld rfl rfl ?_
    refine z_gR (q := 4) (zT X.1 (by decide) rfl) (zRf X.1 (by decide) (by decide) rfl) (by decide) ?_
    refine z_gR (q := 5) (zT X.1 (by decide) rfl) (zRf X.1 (by decide) (by decide) rfl) (by decide) ?_
    refine gw_ld rfl rfl ?_
    refine z_ia (n := 6100) (zT X.1 (by decide) rfl) (zN X.1 (by decide) rfl) (by omega) ?_
    generalize ex6 : ez_I h 5 i.toInt.toNat = x6
    have rx6 := z_rng x6
    have qx6 := congrArg Int32.toInt ex6
    refine z_go ?_
    refine gw_skip _ ?_
    refine z_ri ?_
    exact K _ x6 F X
set_option maxRecDepth 4000 in
set_option maxHeartbeats 20000000 in
theorem k_weighed_L {E : Nat → Nat × (Nat → Int32)} {d : Nat} {Q : ez_Q} {h : ez_H}  (X : xI h)  (K : ∀ x : Int32, Q (.inl (some (.int x))) h) : ∀ N : Nat, (∀ (c : Int32) (i : Int32), (0 ≤ i.toInt ∧ i.toInt ≤ 64) → (2147483647 - i.toInt) < (N : Int) → pw E d 21 4 [some (.ref 1), some (.int c), some (.int i)] [] h Q) := by
  intro N
  induction N with
  | zero => exact fun c i hinv hm => absurd hm (by have w0 := z_rng i; omega)
  | succ N ih =>
    refine fun c i hinv hm => ?_
    · skip
      have w0 := z_rng i
      apply ez_Wp_in
      show ez_gw _ _ _ _ _ _ (cz_21) _ _ _ _ _
      refine gw_skip _ ?_
      have F := zF_refl zX h
      refine gw_ld rfl rfl ?_
      refine z_C (m := 64) rfl rfl (fun x1 ex1 => ?_)
      refine z_b2 (fun c2 => ?_) (fun c2 => ?_)
      · have c2 : x1.toInt ≤ i.toInt := c2
        refine gw_skip _ ?_
        refine gw_ld rfl rfl ?_
        refine z_ri ?_
        exact K c
      · have c2 : ¬ (x1.toInt ≤ i.toInt) := c2
        refine gw_ld rfl rfl ?_
        refine z_gR (q := 7) (zT X.1 (by decide) rfl) (zRf X.1 (by decide) (by decide) rfl) (by decide) ?_
        refine gw_ld rfl rfl ?_
        refine z_ia (n := 64) (zT X.1 (by decide) rfl) (zN X.1 (by decide) rfl) (by omega) ?_
        generalize ex3 : ez_I h 7 i.toInt.toNat = x3
        have rx3 := z_rng x3
        have qx3 := congrArg Int32.toInt ex3
        refine z_b1 (fun c4 => ?_) (fun c4 => ?_)
        · have c4 : x3.toInt ≤ 0 := c4
          refine gw_skip _ ?_
          first | (refine z_inc rfl (by rw [show (1 : Int32).toInt = 1 from rfl]; omega) (fun x5 ex5 => ?_); rw [show (1 : Int32).toInt = 1 from rfl] at ex5) | refine z_incW rfl (fun x5 ex5 => ?_)
          have rx5 := z_rng x5
          show ez_gw _ _ _ _ _ _ _ _ [some (.ref 1), some (.int c), some (.int x5)] _ _ _
          refine z_go ?_
          exact ih c x5 (by first | trivial | omega) (by omega)
        · have c4 : ¬ (x3.toInt ≤ 0) := c4
          first | (refine z_inc rfl (by rw [show (1 : Int32).toInt = 1 from rfl]; omega) (fun x6 ex6 => ?_); rw [show (1 : Int32).toInt = 1 from rfl] at ex6) | refine z_incW rfl (fun x6 ex6 => ?_)
          have rx6 := z_rng x6
          show ez_gw _ _ _ _ _ _ _ _ [some (.ref 1), some (.int x6), some (.int i)] _ _ _
          first | (refine z_inc rfl (by rw [show (1 : Int32).toInt = 1 from rfl]; omega) (fun x7 ex7 => ?_); rw [show (1 : Int32).toInt = 1 from rfl] at ex7) | refine z_incW rfl (fun x7 ex7 => ?_)
          have rx7 := z_rng x7
          show ez_gw _ _ _ _ _ _ _ _ [some (.ref 1), some (.int x6), some (.int x7)] _ _ _
          refine z_go ?_
          exact ih x6 x7 (by first | trivial | omega) (by omega)
set_option maxRecDepth 4000 in
set_option maxHeartbeats 20000000 in
theorem k_weighed {E : Nat → Nat × (Nat → Int32)} {d : Nat} {Q : ez_Q} {h : ez_H}  (X : xI h)  (K : ∀ x : Int32, Q (.inl (some (.int x))) h) : pw E d 21 0 [some (.ref 1), none, none] [] h Q := by
  have F := zF_refl (zX) h
  apply ez_Wp_in
  show ez_gw _ _ _ _ _ _ (cz_21) _ _ _ _ _
  refine gw_skip _ ?_
  refine z_C (m := 0) rfl rfl (fun x1 ex1 => ?_)
  refine gw_st rfl rfl rfl ?_
  show ez_gw _ _ _ _ _ _ _ _ [some (.ref 1), some (.int x1), none] _ _ _
  refine z_C (m := 0) rfl rfl (fun x2 ex2 => ?_)
  refine gw_st rfl rfl rfl ?_
  show ez_gw _ _ _ _ _ _ _ _ [some (.ref 1), some (.int x1), some (.int x2)] _ _ _
  exact ez_Wp_out ((k_weighed_L X K (((2147483647 - x2.toInt)).toNat + 1)) x1 x2 (by first | trivial | omega) (by omega))
set_option maxRecDepth 4000 in
set_option maxHeartbeats 20000000 in
theorem x_length {E : Nat → Nat × (Nat → Int32)} {d : Nat} {Q : ez_Q} {h : ez_H} {y : Int32} (X : xI h)  (K : ∀ h2 (x : Int32), zF (zX) h h2 → xI h2 → (x = if 0 ≤ y.toInt ∧ y.toInt < 64 then ez_I h 8 y.toInt.toNat else -1) → Q (.inl (some (.int x))) h2) : pw E d 18 0 [some (.ref 1), some (.int y)] [] h Q := by
  have gy := z_rng y
  have F := zF_refl (zX) h
  apply ez_Wp_in
  show ez_gw _ _ _ _ _ _ (cz_18) _ _ _ _ _
  refine gw_skip _ ?_
  refine gw_ld rfl rfl ?_
  refine z_b1 (fun c1 => ?_) (fun c1 => ?_)
  · have c1 : y.toInt < 0 := c1
    refine gw_skip _ ?_
    refine z_C (m := -1) rfl rfl (fun x2 ex2 => ?_)
    refine z_ri ?_
    exact K _ x2 F X (by first | (rw [if_pos (by omega)]; first | rfl | assumption | (symm; assumption)) | (rw [if_neg (by omega)]; exact z_inj (by assumption)))
  · have c1 : ¬ (y.toInt < 0) := c1
    refine gw_ld rfl rfl ?_
    refine z_C (m := 64) rfl rfl (fun x3 ex3 => ?_)
    refine z_b2 (fun c4 => ?_) (fun c4 => ?_)
    · have c4 : x3.toInt ≤ y.toInt := c4
      refine gw_skip _ ?_
      refine z_C (m := -1) rfl rfl (fun x5 ex5 => ?_)
      refine z_ri ?_
      exact K _ x5 F X (by first | (rw [if_pos (by omega)]; first | rfl | assumption | (symm; assumption)) | (rw [if_neg (by omega)]; exact z_inj (by assumption)))
    · have c4 : ¬ (x3.toInt ≤ y.toInt) := c4
      refine gw_ld rfl rfl ?_
      refine z_gR (q := 8) (zT X.1 (by decide) rfl) (zRf X.1 (by decide) (by decide) rfl) (by decide) ?_
      refine gw_ld rfl rfl ?_
      refine z_ia (n := 64) (zT X.1 (by decide) rfl) (zN X.1 (by decide) rfl) (by omega) ?_
      generalize ex6 : ez_I h 8 y.toInt.toNat = x6
      have rx6 := z_rng x6
      have qx6 := congrArg Int32.toInt ex6
      refine z_go ?_
      refine gw_skip _ ?_
      refine z_ri ?_
      exact K _ x6 F X (by first | (rw [if_pos (by omega)]; first | rfl | assumption | (symm; assumption)) | (rw [if_neg (by omega)]; exact z_inj (by assumption)))
set_option maxRecDepth 4000 in
set_option maxHeartbeats 20000000 in
theorem x_about {E : Nat → Nat × (Nat → Int32)} {d : Nat} {Q : ez_Q} {h : ez_H} {w : Int32} (X : xI h)  (K : ∀ h2 (x : Int32), zF (zX) h h2 → xI h2 → Q (.inl (some (.int x))) h2) : pw E d 19 0 [some (.ref 1), some (.int w)] [] h Q := by
  have gw := z_rng w
  have F := zF_refl (zX) h
  apply ez_Wp_in
  show ez_gw _ _ _ _ _ _ (cz_19) _ _ _ _ _
  refine gw_skip _ ?_
  refine gw_ld rfl rfl ?_
  refine gw_jp rfl rfl rfl rfl rfl rfl rfl ?_
  refine ⟨fun c1 => ?_, fun c1 => ?_⟩
  · skip
    refine gw_skip _ ?_
    refine gw_ld rfl rfl ?_
    refine z_gR (q := 2) (zT X.1 (by decide) rfl) (zRf X.1 (by decide) (by decide) rfl) (by decide) ?_
    have r2 := X.2.1
    refine z_gI2 (by decide) (zT X.1 (by decide) rfl) (rfl) ?_
    refine z_ri ?_
    exact K _ (ez_I h 2 1) F X
  refine ⟨fun c3 => ?_, fun c3 => ?_⟩
  · skip
    refine gw_skip _ ?_
    refine gw_ld rfl rfl ?_
    refine z_gR (q := 4) (zT X.1 (by decide) rfl) (zRf X.1 (by decide) (by decide) rfl) (by decide) ?_
    have r4 := X.2.2.1
    refine z_gI2 (by decide) (zT X.1 (by decide) rfl) (rfl) ?_
    refine z_ri ?_
    exact K _ (ez_I h 4 1) F X
  refine gw_skip _ ?_
  refine z_C (m := -1) rfl rfl (fun x5 ex5 => ?_)
  refine z_ri ?_
  exact K _ x5 F X
