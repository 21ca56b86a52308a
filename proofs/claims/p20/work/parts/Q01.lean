/-! PRINTED by wip/pack: the class: Matcher, PartList, split -/
set_option maxRecDepth 4000 in
set_option maxHeartbeats 20000000 in
theorem c_spot {E : Nat → Nat × (Nat → Int32)} {d : Nat} {Q : ez_Q} {h : ez_H} {i : Int32} (S : zSh h) (hi : 0 ≤ i.toInt ∧ i.toInt + 3 ≤ 6100) (K : ∀ x : Int32, x.toInt = spK (ez_I h 3) i.toInt.toNat → (0 ≤ x.toInt ∧ x.toInt ≤ 4095) → Q (.inl (some (.int x))) h) : pw E d 112 0 [some (.ref 3), some (.int i), none] [] h Q := by
  have gi := z_rng i
  have F := zW_refl (fun _ _ => False) (fun _ => False) (fun _ => False) h
  apply ez_Wp_in
  show ez_gw _ _ _ _ _ _ (cz_112) _ _ _ _ _
  refine gw_skip _ ?_
  refine gw_ld rfl rfl ?_
  refine z_b1 (fun c1 => ?_) (fun c1 => ?_)
  · have c1 : i.toInt < 0 := c1
    refine gw_skip _ ?_
    refine z_C (m := 0) rfl rfl (fun x2 ex2 => ?_)
    refine z_ri ?_
    exfalso; omega
  · have c1 : ¬ (i.toInt < 0) := c1
    refine gw_ld rfl rfl ?_
    refine z_C (m := 3) rfl rfl (fun x3 ex3 => ?_)
    refine z_add (by omega) (fun x4 ex4 => ?_)
    refine gw_ld rfl rfl ?_
    refine z_al (n := 6100) (.inl (zT S (by decide) rfl)) (zN S (by decide) rfl) (by omega) (fun x5 ex5 => ?_)
    refine z_b2 (fun c6 => ?_) (fun c6 => ?_)
    · have c6 : x4.toInt ≤ x5.toInt := c6
      refine gw_skip _ ?_
      refine gw_ld rfl rfl ?_
      refine gw_ld rfl rfl ?_
      refine z_iaV (n := 6100) (zT S (by decide) rfl) (zN S (by decide) rfl) (by omega) (zW_f F (fun c => c) (fun c => c)) ?_
      generalize ex7 : ez_I h 3 i.toInt.toNat = x7
      have rx7 := z_rng x7
      refine gw_ld rfl rfl ?_
      refine gw_ld rfl rfl ?_
      refine z_C (m := 1) rfl rfl (fun x8 ex8 => ?_)
      refine z_add (by omega) (fun x9 ex9 => ?_)
      refine z_iaV (n := 6100) (zT S (by decide) rfl) (zN S (by decide) rfl) (by omega) (zW_f F (fun c => c) (fun c => c)) ?_
      generalize ex10 : ez_I h 3 x9.toInt.toNat = x10
      have rx10 := z_rng x10
      refine z_C (m := 8) rfl rfl (fun x11 ex11 => ?_)
      refine z_2 rfl (fun x12 ex12 => ?_)
      have rx12 := z_rng x12
      refine z_2 rfl (fun x13 ex13 => ?_)
      have rx13 := z_rng x13
      refine gw_ld rfl rfl ?_
      refine gw_ld rfl rfl ?_
      refine z_C (m := 2) rfl rfl (fun x14 ex14 => ?_)
      refine z_add (by omega) (fun x15 ex15 => ?_)
      refine z_iaV (n := 6100) (zT S (by decide) rfl) (zN S (by decide) rfl) (by omega) (zW_f F (fun c => c) (fun c => c)) ?_
      generalize ex16 : ez_I h 3 x15.toInt.toNat = x16
      have rx16 := z_rng x16
      refine z_C (m := 16) rfl rfl (fun x17 ex17 => ?_)
      refine z_2 rfl (fun x18 ex18 => ?_)
      have rx18 := z_rng x18
      refine z_2 rfl (fun x19 ex19 => ?_)
      have rx19 := z_rng x19
      refine gw_st rfl rfl rfl ?_
      show ez_gw _ _ _ _ _ _ _ _ [some (.ref 3), some (.int i), some (.int x19)] _ _ _
      refine gw_ld rfl rfl ?_
      refine z_C (m := -1640531535) rfl rfl (fun x20 ex20 => ?_)
      refine z_mulW (fun x21 ex21 => ?_)
      have rx21 := z_rng x21
      refine z_C (m := 20) rfl rfl (fun x22 ex22 => ?_)
      refine z_2 rfl (fun x23 ex23 => ?_)
      have rx23 := z_rng x23
      have sx23 : 0 ≤ x23.toInt ∧ x23.toInt ≤ 4095 := by rw [ex23]; exact z_ushr20 (by assumption)
      refine z_ri ?_
      exact zW_Q F (K _ (spK_is (by omega) (by omega) (by omega) ex7 ex10 ex16 ex11 ex17 ex22 ex20 ex12 ex13 ex18 ex19 ex21 ex23) (by omega))
    · have c6 : ¬ (x4.toInt ≤ x5.toInt) := c6
      refine z_C (m := 0) rfl rfl (fun x24 ex24 => ?_)
      refine z_ri ?_
      exfalso; omega
set_option maxRecDepth 4000 in
set_option maxHeartbeats 20000000 in
theorem c_same_L0 {E : Nat → Nat × (Nat → Int32)} {d : Nat} {Q : ez_Q} {h : ez_H} {a : Int32} {b : Int32} {m : Int32} (S : zSh h) (hm : 0 ≤ a.toInt ∧ a.toInt ≤ b.toInt ∧ 0 ≤ m.toInt ∧ b.toInt + m.toInt ≤ 6100) (K : ∀ x : Int32, x.toInt = (lc (tI (ez_I h 3)) a.toInt.toNat b.toInt.toNat m.toInt.toNat : Nat) → Q (.inl (some (.int x))) h) : ∀ N : Nat, (∀ (h2 : ez_H) (i : Int32) , zW (fun _ _ => False) (fun _ => False) (fun _ => False) h h2 → (0 ≤ i.toInt ∧ i.toInt ≤ m.toInt) → (∀ k : Nat, (k : Int) < i.toInt → tI (ez_I h 3) (a.toInt.toNat + k) = tI (ez_I h 3) (b.toInt.toNat + k)) → (10000 - i.toInt) < (N : Int) → pw E d 111 3 [some (.ref 3), some (.int a), some (.int b), some (.int m), some (.int i)] [] h2 Q) := by
  intro N
  induction N with
  | zero => exact fun h2 i  F hinv A_eq hm => absurd hm (by have w_i := z_rng i; have ga := z_rng a; have gb := z_rng b; have gm := z_rng m; omega)
  | succ N ih =>
    refine fun h2 i  F hinv A_eq hm => ?_
    · skip
      have w_i := z_rng i
      have ga := z_rng a
      have gb := z_rng b
      have gm := z_rng m
      have S2 := zW_sh F S
      apply ez_Wp_in
      show ez_gw _ _ _ _ _ _ (cz_111) _ _ _ _ _
      refine gw_skip _ ?_
      refine gw_ld rfl rfl ?_
      refine gw_ld rfl rfl ?_
      refine z_b2 (fun c1 => ?_) (fun c1 => ?_)
      · have c1 : m.toInt ≤ i.toInt := c1
        refine gw_skip _ ?_
        refine gw_ld rfl rfl ?_
        refine z_ri ?_
        exact zW_Q F (K _ (lcI_e1 A_eq (by omega) (by omega)))
      · have c1 : ¬ (m.toInt ≤ i.toInt) := c1
        refine gw_ld rfl rfl ?_
        refine gw_ld rfl rfl ?_
        refine gw_ld rfl rfl ?_
        refine z_add (by omega) (fun x2 ex2 => ?_)
        refine z_iaV (n := 6100) (zT S2 (by decide) rfl) (zN S2 (by decide) rfl) (by omega) (zW_f F (fun c => c) (fun c => c)) ?_
        generalize ex3 : ez_I h 3 x2.toInt.toNat = x3
        have rx3 := z_rng x3
        refine gw_ld rfl rfl ?_
        refine gw_ld rfl rfl ?_
        refine gw_ld rfl rfl ?_
        refine z_add (by omega) (fun x4 ex4 => ?_)
        refine z_iaV (n := 6100) (zT S2 (by decide) rfl) (zN S2 (by decide) rfl) (by omega) (zW_f F (fun c => c) (fun c => c)) ?_
        generalize ex5 : ez_I h 3 x4.toInt.toNat = x5
        have rx5 := z_rng x5
        refine z_b2 (fun c6 => ?_) (fun c6 => ?_)
        · have c6 : x3.toInt ≠ x5.toInt := c6
          refine gw_skip _ ?_
          refine gw_ld rfl rfl ?_
          refine z_ri ?_
          exact zW_Q F (K _ (lcI_e2 A_eq (by omega) (by omega) (by omega) (by omega) (by omega) (by omega) ex3 ex5 (by omega)))
        · have c6 : ¬ (x3.toInt ≠ x5.toInt) := c6
          refine z_inc rfl (by rw [show (1 : Int32).toInt = 1 from rfl]; omega) (fun x7 ex7 => ?_)
          rw [show (1 : Int32).toInt = 1 from rfl] at ex7
          show ez_gw _ _ _ _ _ _ _ _ [some (.ref 3), some (.int a), some (.int b), some (.int m), some (.int x7)] _ _ _
          refine z_go ?_
          exact ih h2 x7 F (by omega) (lcI_s A_eq (by omega) (by omega) (by omega) (by omega) (by omega) ex3 ex5 (by omega) (by omega)) (by omega)
set_option maxRecDepth 4000 in
set_option maxHeartbeats 20000000 in
theorem c_same {E : Nat → Nat × (Nat → Int32)} {d : Nat} {Q : ez_Q} {h : ez_H} {a : Int32} {b : Int32} {m : Int32} (S : zSh h) (hm : 0 ≤ a.toInt ∧ a.toInt ≤ b.toInt ∧ 0 ≤ m.toInt ∧ b.toInt + m.toInt ≤ 6100) (K : ∀ x : Int32, x.toInt = (lc (tI (ez_I h 3)) a.toInt.toNat b.toInt.toNat m.toInt.toNat : Nat) → Q (.inl (some (.int x))) h) : pw E d 111 0 [some (.ref 3), some (.int a), some (.int b), some (.int m), none] [] h Q := by
  have ga := z_rng a
  have gb := z_rng b
  have gm := z_rng m
  have F := zW_refl (fun _ _ => False) (fun _ => False) (fun _ => False) h
  apply ez_Wp_in
  show ez_gw _ _ _ _ _ _ (cz_111) _ _ _ _ _
  refine gw_skip _ ?_
  refine z_C (m := 0) rfl rfl (fun x1 ex1 => ?_)
  refine gw_st rfl rfl rfl ?_
  show ez_gw _ _ _ _ _ _ _ _ [some (.ref 3), some (.int a), some (.int b), some (.int m), some (.int x1)] _ _ _
  exact ez_Wp_at ((c_same_L0 (a := a) (b := b) (m := m) S hm K (((10000 - x1.toInt)).toNat + 1)) h x1 F (by omega) (fun k hk => by omega) (by omega)) rfl
set_option maxRecDepth 4000 in
set_option maxHeartbeats 20000000 in
theorem c_chain_L0 {E : Nat → Nat × (Nat → Int32)} {d : Nat} {Q : ez_Q} {h : ez_H}  (S : zSh h) (hz : 0 ≤ (ez_I h 2 1).toInt ∧ (ez_I h 2 1).toInt ≤ 6000) (K : ∀ h2, zW (fun _ _ => False) (fun q => q = 59 ∨ q = 60) (fun _ => False) h h2 → ∀ N : Nat, (ez_I h 2 1).toInt ≤ N + 2 → chn (tI (ez_I h2 60)) (spK (ez_I h 3)) N → Q (.inl none) h2) : ∀ N : Nat, (∀ (h2 : ez_H) (i : Int32) (l3 : Option Value) , zW (fun _ _ => False) (fun q => q = 59 ∨ q = 60) (fun _ => False) h h2 → (0 ≤ i.toInt ∧ i.toInt ≤ 6000) → laI (ez_I h2 59) (spK (ez_I h 3)) 4096 i.toInt.toNat → chn (tI (ez_I h2 60)) (spK (ez_I h 3)) i.toInt.toNat → (10000 - i.toInt) < (N : Int) → pw E (d + 1) 109 10 [some (.ref 58), some (.ref 2), some (.int i), l3] [] h2 Q) := by
  intro N
  induction N with
  | zero => exact fun h2 i l3  F hinv A_la A_ch hm => absurd hm (by have w_i := z_rng i; omega)
  | succ N ih =>
    refine fun h2 i l3  F hinv A_la A_ch hm => ?_
    · skip
      have w_i := z_rng i
      have S2 := zW_sh F S
      apply ez_Wp_in
      show ez_gw _ _ _ _ _ _ (cz_109) _ _ _ _ _
      refine gw_skip _ ?_
      refine gw_ld rfl rfl ?_
      refine z_C (m := 3) rfl rfl (fun x1 ex1 => ?_)
      refine z_add (by omega) (fun x2 ex2 => ?_)
      refine gw_ld rfl rfl ?_
      have r3 := z_rng (ez_I h 2 1)
      refine z_gI2 (by decide) (zT S2 (by decide) rfl) (zW_f F (by decide) (fun c => c)) ?_
      refine z_b2 (fun c4 => ?_) (fun c4 => ?_)
      · have c4 : ((ez_I h 2 1)).toInt < x2.toInt := c4
        refine gw_skip _ ?_
        refine z_rv ?_
        exact K _ F i.toInt.toNat (by omega) A_ch
      · have c4 : ¬ (((ez_I h 2 1)).toInt < x2.toInt) := c4
        refine gw_ld rfl rfl ?_
        refine gw_ld rfl rfl ?_
        refine z_gR (q := 60) (zT S2 (by decide) rfl) (zRf S2 (by decide) (by decide) rfl) (by decide) ?_
        refine z_al (n := 6000) (.inl (zT S2 (by decide) rfl)) (zN S2 (by decide) rfl) (by omega) (fun x5 ex5 => ?_)
        refine z_b2 (fun c6 => ?_) (fun c6 => ?_)
        · have c6 : x5.toInt ≤ i.toInt := c6
          refine gw_skip _ ?_
          refine z_rv ?_
          exact K _ F i.toInt.toNat (by omega) A_ch
        · have c6 : ¬ (x5.toInt ≤ i.toInt) := c6
          refine gw_ld rfl rfl ?_
          refine z_gR (q := 3) (zT S2 (by decide) rfl) (zRf S2 (by decide) (by decide) rfl) (by decide) ?_
          refine gw_ld rfl rfl ?_
          refine z_cl rfl rfl rfl rfl rfl rfl rfl rfl rfl rfl rfl (trivial) ?_
          refine c_spot (i := i) S2 (by omega) (fun x7 k8 k9 => ?_)
          rw [show ez_I h2 3 = ez_I h 3 from zW_fn F 3 (by decide) (fun _ c => c)] at k8
          refine gw_st rfl rfl rfl ?_
          show ez_gw _ _ _ _ _ _ _ _ [some (.ref 58), some (.ref 2), some (.int i), some (.int x7)] _ _ _
          refine gw_ld rfl rfl ?_
          refine z_gR (q := 60) (zT S2 (by decide) rfl) (zRf S2 (by decide) (by decide) rfl) (by decide) ?_
          refine gw_ld rfl rfl ?_
          refine gw_ld rfl rfl ?_
          refine z_gR (q := 59) (zT S2 (by decide) rfl) (zRf S2 (by decide) (by decide) rfl) (by decide) ?_
          refine gw_ld rfl rfl ?_
          refine z_ia (n := 4096) (zT S2 (by decide) rfl) (zN S2 (by decide) rfl) (by omega) ?_
          generalize ex10 : ez_I h2 59 x7.toInt.toNat = x10
          have rx10 := z_rng x10
          refine z_is (n := 6000) (zT S2 (by decide) rfl) (zN S2 (by decide) rfl) (by omega) (fun h11 e12 => ?_)
          have S13 := zSh_set S2 e12
          have F14 := zW_setA F e12 (by omega)
          have A15 : laI (ez_I h11 59) (spK (ez_I h 3)) 4096 i.toInt.toNat := by rw [zI_fn e12 59 (by decide)]; exact A_la
          have A16 : chn (tI (ez_I h11 60)) (spK (ez_I h 3)) (i.toInt.toNat + 1) := chn_s (g := 59) (M := 4096) A_ch A_la ex10 (by rw [← k8]; omega) (by omega) e12 rfl
          refine gw_ld rfl rfl ?_
          refine z_gR (q := 59) (zT S13 (by decide) rfl) (zRf S13 (by decide) (by decide) rfl) (by decide) ?_
          refine gw_ld rfl rfl ?_
          refine gw_ld rfl rfl ?_
          refine z_is (n := 4096) (zT S13 (by decide) rfl) (zN S13 (by decide) rfl) (by omega) (fun h17 e18 => ?_)
          have S19 := zSh_set S13 e18
          have F20 := zW_setA F14 e18 (by omega)
          have A21 : laI (ez_I h17 59) (spK (ez_I h 3)) 4096 (i.toInt.toNat + 1) := laI_s A15 e18 (by rw [← k8]; omega) (by omega) rfl
          have A22 : chn (tI (ez_I h17 60)) (spK (ez_I h 3)) (i.toInt.toNat + 1) := by rw [zI_fn e18 60 (by decide)]; exact A16
          clear A15
          clear A16
          refine z_inc rfl (by rw [show (1 : Int32).toInt = 1 from rfl]; omega) (fun x23 ex23 => ?_)
          rw [show (1 : Int32).toInt = 1 from rfl] at ex23
          show ez_gw _ _ _ _ _ _ _ _ [some (.ref 58), some (.ref 2), some (.int x23), some (.int x7)] _ _ _
          refine z_go ?_
          exact ih h17 x23 (some (.int x7)) F20 (by omega) ((by rw [show x23.toInt.toNat = (i.toInt.toNat + 1) by omega]; exact A21)) ((by rw [show x23.toInt.toNat = (i.toInt.toNat + 1) by omega]; exact A22)) (by omega)
set_option maxRecDepth 4000 in
set_option maxHeartbeats 20000000 in
theorem c_chain {E : Nat → Nat × (Nat → Int32)} {d : Nat} {Q : ez_Q} {h : ez_H}  (S : zSh h) (hz : 0 ≤ (ez_I h 2 1).toInt ∧ (ez_I h 2 1).toInt ≤ 6000) (K : ∀ h2, zW (fun _ _ => False) (fun q => q = 59 ∨ q = 60) (fun _ => False) h h2 → ∀ N : Nat, (ez_I h 2 1).toInt ≤ N + 2 → chn (tI (ez_I h2 60)) (spK (ez_I h 3)) N → Q (.inl none) h2) : pw E (d + 1) 109 0 [some (.ref 58), some (.ref 2), none, none] [] h Q := by
  have F := zW_refl (fun _ _ => False) (fun q => q = 59 ∨ q = 60) (fun _ => False) h
  apply ez_Wp_in
  show ez_gw _ _ _ _ _ _ (cz_109) _ _ _ _ _
  refine gw_skip _ ?_
  refine gw_ld rfl rfl ?_
  refine z_gR (q := 59) (zT S (by decide) rfl) (zRf S (by decide) (by decide) rfl) (by decide) ?_
  refine z_C (m := -1) rfl rfl (fun x1 ex1 => ?_)
  refine z_cl rfl rfl rfl rfl rfl rfl rfl rfl rfl rfl rfl (trivial) ?_
  refine wp_fill (zT S (by decide) rfl) (by rw [show ez_l h 59 = 4096 from zN S (by decide) rfl]; omega) ?_
  generalize e3 : ez_rowI h 59 (pf_fill (ez_I h 59) (ez_l h 59) x1) = h2
  have e3 := e3.symm
  have A4 := zIr_at e3 (show ez_l h 59 = 4096 from zN S (by decide) rfl)
  have S5 := zSh_row S e3
  have F6 := zW_row F e3 (by omega)
  refine z_C (m := 0) rfl rfl (fun x7 ex7 => ?_)
  refine gw_st rfl rfl rfl ?_
  show ez_gw _ _ _ _ _ _ _ _ [some (.ref 58), some (.ref 2), some (.int x7), none] _ _ _
  exact ez_Wp_at ((c_chain_L0  S hz K (((10000 - x7.toInt)).toNat + 1)) h2 x7 (none) F6 (by omega) ((by rw [show x7.toInt.toNat = 0 by omega]; exact laI_0 A4 (by omega))) ((by rw [show x7.toInt.toNat = 0 by omega]; exact chn_0 _ _)) (by omega)) rfl
set_option maxRecDepth 4000 in
set_option maxHeartbeats 20000000 in
theorem c_search_L0 {E : Nat → Nat × (Nat → Int32)} {d : Nat} {Q : ez_Q} {h : ez_H} {p : Int32} {l : Int32} (S : zSh h) {N : Nat} (hz : 0 ≤ (ez_I h 2 1).toInt ∧ (ez_I h 2 1).toInt ≤ 6000) (hC : chn (tI (ez_I h 60)) (spK (ez_I h 3)) N) (hN : (ez_I h 2 1).toInt ≤ N + 2) (hp : 0 ≤ p.toInt ∧ p.toInt ≤ (ez_I h 2 1).toInt) (hl : 0 ≤ l.toInt ∧ l.toInt ≤ 258) (K : ∀ h2 (x : Int32), zW (fun q k => q = 58 ∧ k = 2) (fun _ => False) (fun _ => False) h h2 → srP (tI (ez_I h 3)) (ez_I h 2 1).toInt.toNat p.toInt.toNat (max l.toInt.toNat 2) x.toInt (ez_I h2 58 2).toInt → (0 ≤ x.toInt ∧ x.toInt ≤ 258) → Q (.inl (some (.int x))) h2) : ∀ N : Nat, (∀ (h2 : ez_H) (ms : Int32) (bt : Int32) (fd : Int32) (fm : Int32) (i : Int32) (l9 : Option Value) , zW (fun q k => q = 58 ∧ k = 2) (fun _ => False) (fun _ => False) h h2 → (0 ≤ i.toInt ∧ 3 ≤ ms.toInt ∧ ms.toInt ≤ 258 ∧ ms.toInt ≤ (ez_I h 2 1).toInt - p.toInt ∧ (ms.toInt = 258 ∨ ms.toInt = (ez_I h 2 1).toInt - p.toInt) ∧ -1 ≤ fm.toInt ∧ i.toInt + 1 ≤ p.toInt - fm.toInt ∧ l.toInt < ms.toInt) → soP (tI (ez_I h 3)) p.toInt.toNat ms.toInt.toNat (max l.toInt.toNat 2) fm.toInt bt.toInt fd.toInt (ez_I h2 58 2).toInt → (0 ≤ fm.toInt → (spK (ez_I h 3)) fm.toInt.toNat = (spK (ez_I h 3)) p.toInt.toNat) → (10000 - i.toInt) < (N : Int) → pw E (d + 1) 110 57 [some (.ref 58), some (.ref 2), some (.int p), some (.int l), some (.int ms), some (.int bt), some (.int fd), some (.int fm), some (.int i), l9] [] h2 Q) := by
  intro N
  induction N with
  | zero => exact fun h2 ms bt fd fm i l9  F hinv A_so A_ky hm => absurd hm (by have w_ms := z_rng ms; have w_bt := z_rng bt; have w_fd := z_rng fd; have w_fm := z_rng fm; have w_i := z_rng i; have gp := z_rng p; have gl := z_rng l; omega)
  | succ N ih =>
    refine fun h2 ms bt fd fm i l9  F hinv A_so A_ky hm => ?_
    · skip
      have w_ms := z_rng ms
      have w_bt := z_rng bt
      have w_fd := z_rng fd
      have w_fm := z_rng fm
      have w_i := z_rng i
      have gp := z_rng p
      have gl := z_rng l
      have S2 := zW_sh F S
      obtain ⟨q1, q2, q3⟩ := soP_2 A_so (by omega) (by omega)
      apply ez_Wp_in
      show ez_gw _ _ _ _ _ _ (cz_110) _ _ _ _ _
      refine gw_skip _ ?_
      have r1 := z_rng (ez_I h2 58 2)
      refine gw_ld rfl rfl ?_
      refine z_C (m := 4096) rfl rfl (fun x2 ex2 => ?_)
      refine z_b2 (fun c3 => ?_) (fun c3 => ?_)
      · have c3 : x2.toInt ≤ i.toInt := c3
        refine gw_skip _ ?_
        refine gw_ld rfl rfl ?_
        refine z_b1 (fun c4 => ?_) (fun c4 => ?_)
        · have c4 : fd.toInt = 0 := c4
          refine gw_skip _ ?_
          refine z_C (m := 0) rfl rfl (fun x5 ex5 => ?_)
          refine z_ri ?_
          exact K _ _ F (soP_e A_so (by omega) (by omega) (by omega) (by omega)) (by omega)
        · have c4 : ¬ (fd.toInt = 0) := c4
          refine gw_ld rfl rfl ?_
          refine z_go ?_
          refine gw_skip _ ?_
          refine z_ri ?_
          exact K _ _ F (soP_e A_so (by omega) (by omega) (by omega) (by omega)) (by omega)
      · have c3 : ¬ (x2.toInt ≤ i.toInt) := c3
        refine gw_ld rfl rfl ?_
        refine z_b1 (fun c6 => ?_) (fun c6 => ?_)
        · have c6 : fm.toInt < 0 := c6
          refine gw_skip _ ?_
          refine gw_ld rfl rfl ?_
          refine z_b1 (fun c7 => ?_) (fun c7 => ?_)
          · have c7 : fd.toInt = 0 := c7
            refine gw_skip _ ?_
            refine z_C (m := 0) rfl rfl (fun x8 ex8 => ?_)
            refine z_ri ?_
            exact K _ _ F (soP_e A_so (by omega) (by omega) (by omega) (by omega)) (by omega)
          · have c7 : ¬ (fd.toInt = 0) := c7
            refine gw_ld rfl rfl ?_
            refine z_go ?_
            refine gw_skip _ ?_
            refine z_ri ?_
            exact K _ _ F (soP_e A_so (by omega) (by omega) (by omega) (by omega)) (by omega)
        · have c6 : ¬ (fm.toInt < 0) := c6
          refine gw_ld rfl rfl ?_
          refine gw_ld rfl rfl ?_
          refine z_sub (by omega) (fun x9 ex9 => ?_)
          refine z_C (m := 4096) rfl rfl (fun x10 ex10 => ?_)
          refine z_b2 (fun c11 => ?_) (fun c11 => ?_)
          · have c11 : x10.toInt < x9.toInt := c11
            refine gw_skip _ ?_
            refine gw_ld rfl rfl ?_
            refine z_b1 (fun c12 => ?_) (fun c12 => ?_)
            · have c12 : fd.toInt = 0 := c12
              refine gw_skip _ ?_
              refine z_C (m := 0) rfl rfl (fun x13 ex13 => ?_)
              refine z_ri ?_
              exact K _ _ F (soP_e A_so (by omega) (by omega) (by omega) (by omega)) (by omega)
            · have c12 : ¬ (fd.toInt = 0) := c12
              refine gw_ld rfl rfl ?_
              refine z_go ?_
              refine gw_skip _ ?_
              refine z_ri ?_
              exact K _ _ F (soP_e A_so (by omega) (by omega) (by omega) (by omega)) (by omega)
          · have c11 : ¬ (x10.toInt < x9.toInt) := c11
            refine gw_ld rfl rfl ?_
            refine gw_ld rfl rfl ?_
            refine z_b2 (fun c14 => ?_) (fun c14 => ?_)
            · have c14 : ms.toInt ≤ bt.toInt := c14
              refine gw_skip _ ?_
              refine gw_ld rfl rfl ?_
              refine z_b1 (fun c15 => ?_) (fun c15 => ?_)
              · have c15 : fd.toInt = 0 := c15
                refine gw_skip _ ?_
                refine z_C (m := 0) rfl rfl (fun x16 ex16 => ?_)
                refine z_ri ?_
                exact K _ _ F (soP_e A_so (by omega) (by omega) (by omega) (by omega)) (by omega)
              · have c15 : ¬ (fd.toInt = 0) := c15
                refine gw_ld rfl rfl ?_
                refine z_go ?_
                refine gw_skip _ ?_
                refine z_ri ?_
                exact K _ _ F (soP_e A_so (by omega) (by omega) (by omega) (by omega)) (by omega)
            · have c14 : ¬ (ms.toInt ≤ bt.toInt) := c14
              refine gw_ld rfl rfl ?_
              refine z_gR (q := 3) (zT S2 (by decide) rfl) (zRf S2 (by decide) (by decide) rfl) (by decide) ?_
              refine gw_ld rfl rfl ?_
              refine gw_ld rfl rfl ?_
              refine z_add (by omega) (fun x17 ex17 => ?_)
              refine z_iaV (n := 6100) (zT S2 (by decide) rfl) (zN S2 (by decide) rfl) (by omega) (zW_f F (fun c => c) (by omega)) ?_
              generalize ex18 : ez_I h 3 x17.toInt.toNat = x18
              have rx18 := z_rng x18
              refine gw_ld rfl rfl ?_
              refine z_gR (q := 3) (zT S2 (by decide) rfl) (zRf S2 (by decide) (by decide) rfl) (by decide) ?_
              refine gw_ld rfl rfl ?_
              refine gw_ld rfl rfl ?_
              refine z_add (by omega) (fun x19 ex19 => ?_)
              refine z_iaV (n := 6100) (zT S2 (by decide) rfl) (zN S2 (by decide) rfl) (by omega) (zW_f F (fun c => c) (by omega)) ?_
              generalize ex20 : ez_I h 3 x19.toInt.toNat = x20
              have rx20 := z_rng x20
              refine z_b2 (fun c21 => ?_) (fun c21 => ?_)
              · have c21 : x18.toInt ≠ x20.toInt := c21
                refine gw_skip _ ?_
                refine gw_ld rfl rfl ?_
                refine z_gR (q := 60) (zT S2 (by decide) rfl) (zRf S2 (by decide) (by decide) rfl) (by decide) ?_
                refine gw_ld rfl rfl ?_
                refine z_iaV (n := 6000) (zT S2 (by decide) rfl) (zN S2 (by decide) rfl) (by omega) (zW_f F (fun c => c) (by omega)) ?_
                generalize ex22 : ez_I h 60 fm.toInt.toNat = x22
                have rx22 := z_rng x22
                obtain ⟨y1x22, y2x22, y3x22, y4x22⟩ := hC fm.toInt.toNat (by omega)
                have efx22 : tI (ez_I h 60) fm.toInt.toNat = x22.toInt := congrArg Int32.toInt ex22
                rw [efx22] at y1x22 y2x22 y3x22
                clear y4x22
                refine gw_st rfl rfl rfl ?_
                show ez_gw _ _ _ _ _ _ _ _ [some (.ref 58), some (.ref 2), some (.int p), some (.int l), some (.int ms), some (.int bt), some (.int fd), some (.int x22), some (.int i), l9] _ _ _
                refine z_inc rfl (by rw [show (1 : Int32).toInt = 1 from rfl]; omega) (fun x23 ex23 => ?_)
                rw [show (1 : Int32).toInt = 1 from rfl] at ex23
                show ez_gw _ _ _ _ _ _ _ _ [some (.ref 58), some (.ref 2), some (.int p), some (.int l), some (.int ms), some (.int bt), some (.int fd), some (.int x22), some (.int x23), l9] _ _ _
                refine z_go ?_
                exact ih h2 ms bt fd x22 x23 (l9) F (by omega) (soP_n A_so hC (spK_tri _ _) (by omega) (by omega) (A_ky (by omega)) (by omega) (by omega) efx22.symm (lcI_cut (by omega) (by omega) (by omega) (by omega) (by omega) ex18 ex20 (by omega))) (fun q => (y3x22 q).trans (A_ky (by omega))) (by omega)
              · have c21 : ¬ (x18.toInt ≠ x20.toInt) := c21
                refine gw_ld rfl rfl ?_
                refine z_gR (q := 3) (zT S2 (by decide) rfl) (zRf S2 (by decide) (by decide) rfl) (by decide) ?_
                refine gw_ld rfl rfl ?_
                refine gw_ld rfl rfl ?_
                refine gw_ld rfl rfl ?_
                refine z_cl rfl rfl rfl rfl rfl rfl rfl rfl rfl rfl rfl (trivial) ?_
                refine c_same S2 (a := fm) (b := p) (m := ms) (by omega) (fun x24 k25 => ?_)
                have rx24 := z_rng x24
                rw [show ez_I h2 3 = ez_I h 3 from zW_fn F 3 (fun c => c) (fun k c => by omega)] at k25
                refine gw_st rfl rfl rfl ?_
                show ez_gw _ _ _ _ _ _ _ _ [some (.ref 58), some (.ref 2), some (.int p), some (.int l), some (.int ms), some (.int bt), some (.int fd), some (.int fm), some (.int i), some (.int x24)] _ _ _
                refine gw_ld rfl rfl ?_
                refine gw_ld rfl rfl ?_
                refine z_b2 (fun c26 => ?_) (fun c26 => ?_)
                · have c26 : x24.toInt ≤ bt.toInt := c26
                  refine gw_skip _ ?_
                  refine gw_ld rfl rfl ?_
                  refine z_gR (q := 60) (zT S2 (by decide) rfl) (zRf S2 (by decide) (by decide) rfl) (by decide) ?_
                  refine gw_ld rfl rfl ?_
                  refine z_iaV (n := 6000) (zT S2 (by decide) rfl) (zN S2 (by decide) rfl) (by omega) (zW_f F (fun c => c) (by omega)) ?_
                  generalize ex27 : ez_I h 60 fm.toInt.toNat = x27
                  have rx27 := z_rng x27
                  obtain ⟨y1x27, y2x27, y3x27, y4x27⟩ := hC fm.toInt.toNat (by omega)
                  have efx27 : tI (ez_I h 60) fm.toInt.toNat = x27.toInt := congrArg Int32.toInt ex27
                  rw [efx27] at y1x27 y2x27 y3x27
                  clear y4x27
                  refine gw_st rfl rfl rfl ?_
                  show ez_gw _ _ _ _ _ _ _ _ [some (.ref 58), some (.ref 2), some (.int p), some (.int l), some (.int ms), some (.int bt), some (.int fd), some (.int x27), some (.int i), some (.int x24)] _ _ _
                  refine z_inc rfl (by rw [show (1 : Int32).toInt = 1 from rfl]; omega) (fun x28 ex28 => ?_)
                  rw [show (1 : Int32).toInt = 1 from rfl] at ex28
                  show ez_gw _ _ _ _ _ _ _ _ [some (.ref 58), some (.ref 2), some (.int p), some (.int l), some (.int ms), some (.int bt), some (.int fd), some (.int x27), some (.int x28), some (.int x24)] _ _ _
                  refine z_go ?_
                  exact ih h2 ms bt fd x27 x28 (some (.int x24)) F (by omega) (soP_n A_so hC (spK_tri _ _) (by omega) (by omega) (A_ky (by omega)) (by omega) (by omega) efx27.symm (by omega)) (fun q => (y3x27 q).trans (A_ky (by omega))) (by omega)
                · have c26 : ¬ (x24.toInt ≤ bt.toInt) := c26
                  refine gw_ld rfl rfl ?_
                  refine gw_st rfl rfl rfl ?_
                  show ez_gw _ _ _ _ _ _ _ _ [some (.ref 58), some (.ref 2), some (.int p), some (.int l), some (.int ms), some (.int x24), some (.int fd), some (.int fm), some (.int i), some (.int x24)] _ _ _
                  refine gw_ld rfl rfl ?_
                  refine gw_ld rfl rfl ?_
                  refine gw_ld rfl rfl ?_
                  refine z_sub (by omega) (fun x29 ex29 => ?_)
                  refine z_pI (zT S2 (by decide) rfl) (fun h30 e31 => ?_)
                  have S32 := zSh_set S2 e31
                  have F33 := zW_setF F e31 (by omega)
                  have f34 : ez_I h30 58 2 = x29 := zI_eq e31
                  refine z_C (m := 1) rfl rfl (fun x35 ex35 => ?_)
                  refine gw_st rfl rfl rfl ?_
                  show ez_gw _ _ _ _ _ _ _ _ [some (.ref 58), some (.ref 2), some (.int p), some (.int l), some (.int ms), some (.int x24), some (.int x35), some (.int fm), some (.int i), some (.int x24)] _ _ _
                  refine gw_ld rfl rfl ?_
                  refine z_gR (q := 60) (zT S32 (by decide) rfl) (zRf S32 (by decide) (by decide) rfl) (by decide) ?_
                  refine gw_ld rfl rfl ?_
                  refine z_iaV (n := 6000) (zT S32 (by decide) rfl) (zN S32 (by decide) rfl) (by omega) (zW_f F33 (fun c => c) (by omega)) ?_
                  generalize ex36 : ez_I h 60 fm.toInt.toNat = x36
                  have rx36 := z_rng x36
                  obtain ⟨y1x36, y2x36, y3x36, y4x36⟩ := hC fm.toInt.toNat (by omega)
                  have efx36 : tI (ez_I h 60) fm.toInt.toNat = x36.toInt := congrArg Int32.toInt ex36
                  rw [efx36] at y1x36 y2x36 y3x36
                  clear y4x36
                  refine gw_st rfl rfl rfl ?_
                  show ez_gw _ _ _ _ _ _ _ _ [some (.ref 58), some (.ref 2), some (.int p), some (.int l), some (.int ms), some (.int x24), some (.int x35), some (.int x36), some (.int i), some (.int x24)] _ _ _
                  refine z_inc rfl (by rw [show (1 : Int32).toInt = 1 from rfl]; omega) (fun x37 ex37 => ?_)
                  rw [show (1 : Int32).toInt = 1 from rfl] at ex37
                  show ez_gw _ _ _ _ _ _ _ _ [some (.ref 58), some (.ref 2), some (.int p), some (.int l), some (.int ms), some (.int x24), some (.int x35), some (.int x36), some (.int x37), some (.int x24)] _ _ _
                  refine z_go ?_
                  have t38 := congrArg Int32.toInt (f34)
                  exact ih h30 ms x24 x35 x36 x37 (some (.int x24)) F33 (by omega) (soP_y A_so hC (spK_tri _ _) (by omega) (by omega) (A_ky (by omega)) (by omega) (by omega) efx36.symm (by omega) (by omega) (by omega) (by rw [f34]; omega)) (fun q => (y3x36 q).trans (A_ky (by omega))) (by omega)
set_option maxRecDepth 4000 in
set_option maxHeartbeats 20000000 in
theorem c_search {E : Nat → Nat × (Nat → Int32)} {d : Nat} {Q : ez_Q} {h : ez_H} {p : Int32} {l : Int32} (S : zSh h) {N : Nat} (hz : 0 ≤ (ez_I h 2 1).toInt ∧ (ez_I h 2 1).toInt ≤ 6000) (hC : chn (tI (ez_I h 60)) (spK (ez_I h 3)) N) (hN : (ez_I h 2 1).toInt ≤ N + 2) (hp : 0 ≤ p.toInt ∧ p.toInt ≤ (ez_I h 2 1).toInt) (hl : 0 ≤ l.toInt ∧ l.toInt ≤ 258) (K : ∀ h2 (x : Int32), zW (fun q k => q = 58 ∧ k = 2) (fun _ => False) (fun _ => False) h h2 → srP (tI (ez_I h 3)) (ez_I h 2 1).toInt.toNat p.toInt.toNat (max l.toInt.toNat 2) x.toInt (ez_I h2 58 2).toInt → (0 ≤ x.toInt ∧ x.toInt ≤ 258) → Q (.inl (some (.int x))) h2) : pw E (d + 1) 110 0 [some (.ref 58), some (.ref 2), some (.int p), some (.int l), none, none, none, none, none, none] [] h Q := by
  have gp := z_rng p
  have gl := z_rng l
  have F := zW_refl (fun q k => q = 58 ∧ k = 2) (fun _ => False) (fun _ => False) h
  apply ez_Wp_in
  show ez_gw _ _ _ _ _ _ (cz_110) _ _ _ _ _
  refine gw_skip _ ?_
  have r1 := z_rng (ez_I h 58 2)
  refine z_C (m := 258) rfl rfl (fun x2 ex2 => ?_)
  refine gw_ld rfl rfl ?_
  have r3 := z_rng (ez_I h 2 1)
  refine z_gI2 (by decide) (zT S (by decide) rfl) (zW_f F (fun c => c) (by decide)) ?_
  refine gw_ld rfl rfl ?_
  refine z_sub (by omega) (fun x4 ex4 => ?_)
  refine z_min rfl (fun x5 ex5 => ?_)
  refine gw_st rfl rfl rfl ?_
  show ez_gw _ _ _ _ _ _ _ _ [some (.ref 58), some (.ref 2), some (.int p), some (.int l), some (.int x5), none, none, none, none, none] _ _ _
  refine gw_ld rfl rfl ?_
  refine z_C (m := 2) rfl rfl (fun x6 ex6 => ?_)
  refine z_max rfl (fun x7 ex7 => ?_)
  refine gw_st rfl rfl rfl ?_
  show ez_gw _ _ _ _ _ _ _ _ [some (.ref 58), some (.ref 2), some (.int p), some (.int l), some (.int x5), some (.int x7), none, none, none, none] _ _ _
  refine gw_ld rfl rfl ?_
  refine z_b1 (fun c8 => ?_) (fun c8 => ?_)
  · have c8 : p.toInt < 0 := c8
    refine gw_skip _ ?_
    refine z_C (m := 0) rfl rfl (fun x9 ex9 => ?_)
    refine z_ri ?_
    exact K _ _ F (srP_full (by omega) (by omega)) (by omega)
  · have c8 : ¬ (p.toInt < 0) := c8
    refine gw_ld rfl rfl ?_
    refine gw_ld rfl rfl ?_
    refine z_gR (q := 60) (zT S (by decide) rfl) (zRf S (by decide) (by decide) rfl) (by decide) ?_
    refine z_al (n := 6000) (.inl (zT S (by decide) rfl)) (zN S (by decide) rfl) (by omega) (fun x10 ex10 => ?_)
    refine z_b2 (fun c11 => ?_) (fun c11 => ?_)
    · have c11 : x10.toInt ≤ p.toInt := c11
      refine gw_skip _ ?_
      refine z_C (m := 0) rfl rfl (fun x12 ex12 => ?_)
      refine z_ri ?_
      exact K _ _ F (srP_full (by omega) (by omega)) (by omega)
    · have c11 : ¬ (x10.toInt ≤ p.toInt) := c11
      refine gw_ld rfl rfl ?_
      refine gw_ld rfl rfl ?_
      refine z_b2 (fun c13 => ?_) (fun c13 => ?_)
      · have c13 : x7.toInt < x5.toInt := c13
        refine gw_skip _ ?_
        refine z_C (m := 0) rfl rfl (fun x14 ex14 => ?_)
        refine gw_st rfl rfl rfl ?_
        show ez_gw _ _ _ _ _ _ _ _ [some (.ref 58), some (.ref 2), some (.int p), some (.int l), some (.int x5), some (.int x7), some (.int x14), none, none, none] _ _ _
        refine gw_ld rfl rfl ?_
        refine z_gR (q := 60) (zT S (by decide) rfl) (zRf S (by decide) (by decide) rfl) (by decide) ?_
        refine gw_ld rfl rfl ?_
        refine z_iaV (n := 6000) (zT S (by decide) rfl) (zN S (by decide) rfl) (by omega) (zW_f F (fun c => c) (by omega)) ?_
        generalize ex15 : ez_I h 60 p.toInt.toNat = x15
        have rx15 := z_rng x15
        obtain ⟨y1x15, y2x15, y3x15, y4x15⟩ := hC p.toInt.toNat (by omega)
        have efx15 : tI (ez_I h 60) p.toInt.toNat = x15.toInt := congrArg Int32.toInt ex15
        rw [efx15] at y1x15 y2x15 y3x15
        clear y4x15
        refine gw_st rfl rfl rfl ?_
        show ez_gw _ _ _ _ _ _ _ _ [some (.ref 58), some (.ref 2), some (.int p), some (.int l), some (.int x5), some (.int x7), some (.int x14), some (.int x15), none, none] _ _ _
        refine z_C (m := 0) rfl rfl (fun x16 ex16 => ?_)
        refine gw_st rfl rfl rfl ?_
        show ez_gw _ _ _ _ _ _ _ _ [some (.ref 58), some (.ref 2), some (.int p), some (.int l), some (.int x5), some (.int x7), some (.int x14), some (.int x15), some (.int x16), none] _ _ _
        exact ez_Wp_at ((c_search_L0 (p := p) (l := l) S hz hC hN hp hl K (((10000 - x16.toInt)).toNat + 1)) h x5 x7 x14 x15 x16 (none) F (by omega) (soP_0 hC (spK_tri _ _) (by omega) (by omega) efx15.symm (by omega) (by omega)) (fun q => y3x15 q) (by omega)) rfl
      · have c13 : ¬ (x7.toInt < x5.toInt) := c13
        refine z_C (m := 0) rfl rfl (fun x17 ex17 => ?_)
        refine z_ri ?_
        exact K _ _ F (srP_full (by omega) (by omega)) (by omega)
set_option maxRecDepth 4000 in
set_option maxHeartbeats 20000000 in
theorem c_padd {E : Nat → Nat × (Nat → Int32)} {d : Nat} {Q : ez_Q} {h : ez_H} {a : Int32} {ds : Int32} (S : zSh h) (hc : 0 ≤ (ez_I h 53 1).toInt ∧ (ez_I h 53 1).toInt < 6000) (ha : 0 ≤ a.toInt ∧ a.toInt ≤ 511) (hd : 0 ≤ ds.toInt ∧ ds.toInt ≤ 4096) (K : ∀ h2, zW (fun q k => q = 53 ∧ k = 1) (fun q => q = 54) (fun _ => False) h h2 → (ez_I h2 53 1).toInt = (ez_I h 53 1).toInt + 1 → (ez_I h2 54 (ez_I h 53 1).toInt.toNat).toInt = ds.toInt * 512 + a.toInt → (∀ k, k ≠ (ez_I h 53 1).toInt.toNat → ez_I h2 54 k = ez_I h 54 k) → Q (.inl none) h2) : pw E d 124 0 [some (.ref 53), some (.int a), some (.int ds)] [] h Q := by
  have ga := z_rng a
  have gds := z_rng ds
  have F := zW_refl (fun q k => q = 53 ∧ k = 1) (fun q => q = 54) (fun _ => False) h
  apply ez_Wp_in
  show ez_gw _ _ _ _ _ _ (cz_124) _ _ _ _ _
  refine gw_skip _ ?_
  have r1 := z_rng (ez_I h 53 1)
  refine gw_ld rfl rfl ?_
  refine z_gI2 (by decide) (zT S (by decide) rfl) (rfl) ?_
  refine z_b1 (fun c2 => ?_) (fun c2 => ?_)
  · have c2 : ((ez_I h 53 1)).toInt < 0 := c2
    refine gw_skip _ ?_
    refine z_rv ?_
    exfalso; omega
  · have c2 : ¬ (((ez_I h 53 1)).toInt < 0) := c2
    refine gw_ld rfl rfl ?_
    refine z_gI2 (by decide) (zT S (by decide) rfl) (rfl) ?_
    refine gw_ld rfl rfl ?_
    refine z_gR (q := 54) (zT S (by decide) rfl) (zRf S (by decide) (by decide) rfl) (by decide) ?_
    refine z_al (n := 6000) (.inl (zT S (by decide) rfl)) (zN S (by decide) rfl) (by omega) (fun x3 ex3 => ?_)
    refine z_b2 (fun c4 => ?_) (fun c4 => ?_)
    · have c4 : x3.toInt ≤ ((ez_I h 53 1)).toInt := c4
      refine gw_skip _ ?_
      refine z_rv ?_
      exfalso; omega
    · have c4 : ¬ (x3.toInt ≤ ((ez_I h 53 1)).toInt) := c4
      refine gw_ld rfl rfl ?_
      refine z_gR (q := 54) (zT S (by decide) rfl) (zRf S (by decide) (by decide) rfl) (by decide) ?_
      refine gw_ld rfl rfl ?_
      refine z_gI2 (by decide) (zT S (by decide) rfl) (rfl) ?_
      refine gw_ld rfl rfl ?_
      refine z_C (m := 9) rfl rfl (fun x5 ex5 => ?_)
      refine z_2 rfl (fun x6 ex6 => ?_)
      have rx6 := z_rng x6
      have vx6 := n_shl (n := 9) (by omega) (by decide) (by omega) (by omega) ex6
      rw [show (2 : Int) ^ 9 = 512 from rfl] at vx6
      refine gw_ld rfl rfl ?_
      refine z_C (m := 511) rfl rfl (fun x7 ex7 => ?_)
      refine z_and (fun x8 ex8 ux8 wx8 => ?_)
      have rx8 := z_rng x8
      replace ux8 := ux8 (by omega)
      clear wx8
      have vx8 := n_mask (k := 9) (by decide) (by omega) ex8
      rw [show (2 : Int) ^ 9 = 512 from rfl] at vx8
      refine z_2 rfl (fun x9 ex9 => ?_)
      have rx9 := z_rng x9
      have vx9 := n_or (n := 9) (a := ds.toInt) (by omega) (by omega) (by omega) (by omega) ex9
      refine z_is (n := 6000) (zT S (by decide) rfl) (zN S (by decide) rfl) (by omega) (fun h10 e11 => ?_)
      have S12 := zSh_set S e11
      have F13 := zW_setA F e11 (by omega)
      have f14 : ez_I h10 53 1 = (ez_I h 53 1) := (zI_ne e11 (by omega)).trans (rfl)
      have A15 : (ez_I h10 54 (ez_I h 53 1).toInt.toNat).toInt = ds.toInt * 512 + a.toInt ∧ ∀ k, k ≠ (ez_I h 53 1).toInt.toNat → ez_I h10 54 k = ez_I h 54 k := ⟨by rw [zI_eq e11]; omega, fun k hk => zI_ne e11 (by omega)⟩
      refine gw_ld rfl rfl ?_
      refine gw_op rfl ?_
      refine z_gI2 (by decide) (zT S12 (by decide) rfl) (f14) ?_
      refine z_C (m := 1) rfl rfl (fun x16 ex16 => ?_)
      refine z_add (by omega) (fun x17 ex17 => ?_)
      refine z_pI (zT S12 (by decide) rfl) (fun h18 e19 => ?_)
      have S20 := zSh_set S12 e19
      have F21 := zW_setF F13 e19 (by omega)
      have f22 : ez_I h18 53 1 = x17 := zI_eq e19
      have A23 : (ez_I h18 54 (ez_I h 53 1).toInt.toNat).toInt = ds.toInt * 512 + a.toInt ∧ ∀ k, k ≠ (ez_I h 53 1).toInt.toNat → ez_I h18 54 k = ez_I h 54 k := by rw [zI_fn e19 54 (by decide)]; exact A15
      clear A15
      refine z_rv ?_
      have t24 := congrArg Int32.toInt (f22)
      exact K _ F21 (by omega) A23.1 A23.2
set_option maxRecDepth 4000 in
set_option maxHeartbeats 20000000 in
theorem c_phas {E : Nat → Nat × (Nat → Int32)} {d : Nat} {Q : ez_Q} {h : ez_H} {k : Int32} (S : zSh h)  (K : ∀ x : Int32, (x.toInt = 0 ∨ x.toInt = 1) → (x.toInt = 1 → 0 ≤ k.toInt ∧ k.toInt < (ez_I h 53 1).toInt ∧ k.toInt < 6000) → (x.toInt = 0 → ¬ (0 ≤ k.toInt ∧ k.toInt < (ez_I h 53 1).toInt ∧ k.toInt < 6000)) → Q (.inl (some (.int x))) h) : pw E d 123 0 [some (.ref 53), some (.int k)] [] h Q := by
  have gk := z_rng k
  have F := zW_refl (fun _ _ => False) (fun _ => False) (fun _ => False) h
  apply ez_Wp_in
  show ez_gw _ _ _ _ _ _ (cz_123) _ _ _ _ _
  refine gw_skip _ ?_
  refine gw_ld rfl rfl ?_
  refine z_b1 (fun c1 => ?_) (fun c1 => ?_)
  · have c1 : k.toInt < 0 := c1
    refine gw_skip _ ?_
    refine z_C (m := 0) rfl rfl (fun x2 ex2 => ?_)
    refine z_rz (by omega) ?_
    exact zW_Q F (K x2 (by omega) (by omega) (by omega))
  · have c1 : ¬ (k.toInt < 0) := c1
    refine gw_ld rfl rfl ?_
    refine gw_ld rfl rfl ?_
    have r3 := z_rng (ez_I h 53 1)
    refine z_gI2 (by decide) (zT S (by decide) rfl) (zW_f F (fun c => c) (fun c => c)) ?_
    refine z_b2 (fun c4 => ?_) (fun c4 => ?_)
    · have c4 : ((ez_I h 53 1)).toInt ≤ k.toInt := c4
      refine gw_skip _ ?_
      refine z_C (m := 0) rfl rfl (fun x5 ex5 => ?_)
      refine z_rz (by omega) ?_
      exact zW_Q F (K x5 (by omega) (by omega) (by omega))
    · have c4 : ¬ (((ez_I h 53 1)).toInt ≤ k.toInt) := c4
      refine gw_ld rfl rfl ?_
      refine gw_ld rfl rfl ?_
      refine z_gR (q := 54) (zT S (by decide) rfl) (zRf S (by decide) (by decide) rfl) (by decide) ?_
      refine z_al (n := 6000) (.inl (zT S (by decide) rfl)) (zN S (by decide) rfl) (by omega) (fun x6 ex6 => ?_)
      refine z_b2 (fun c7 => ?_) (fun c7 => ?_)
      · have c7 : x6.toInt ≤ k.toInt := c7
        refine gw_skip _ ?_
        refine z_C (m := 0) rfl rfl (fun x8 ex8 => ?_)
        refine z_rz (by omega) ?_
        exact zW_Q F (K x8 (by omega) (by omega) (by omega))
      · have c7 : ¬ (x6.toInt ≤ k.toInt) := c7
        refine z_C (m := 1) rfl rfl (fun x9 ex9 => ?_)
        refine z_go ?_
        refine gw_skip _ ?_
        refine z_rz (by omega) ?_
        exact zW_Q F (K x9 (by omega) (by omega) (by omega))
set_option maxRecDepth 4000 in
set_option maxHeartbeats 20000000 in
theorem c_pamount {E : Nat → Nat × (Nat → Int32)} {d : Nat} {Q : ez_Q} {h : ez_H} {k : Int32} (S : zSh h) (hk : 0 ≤ k.toInt ∧ k.toInt < (ez_I h 53 1).toInt ∧ (ez_I h 53 1).toInt ≤ 6000) (K : ∀ x : Int32, x.toInt = (ez_I h 54 k.toInt.toNat).toInt % 512 → Q (.inl (some (.int x))) h) : pw E (d + 1) 125 0 [some (.ref 53), some (.int k)] [] h Q := by
  have gk := z_rng k
  have F := zW_refl (fun _ _ => False) (fun _ => False) (fun _ => False) h
  apply ez_Wp_in
  show ez_gw _ _ _ _ _ _ (cz_125) _ _ _ _ _
  refine gw_skip _ ?_
  refine gw_ld rfl rfl ?_
  refine gw_ld rfl rfl ?_
  refine z_cl rfl rfl rfl rfl rfl rfl rfl rfl rfl rfl rfl (zT S (by decide) rfl) ?_
  refine c_phas S (k := k) (fun x1 k2 k3 k4 => ?_)
  have rx1 := z_rng x1
  refine z_b1 (fun c5 => ?_) (fun c5 => ?_)
  · have c5 : x1.toInt = 0 := c5
    refine gw_skip _ ?_
    refine z_C (m := 0) rfl rfl (fun x6 ex6 => ?_)
    refine z_ri ?_
    exfalso; omega
  · have c5 : ¬ (x1.toInt = 0) := c5
    refine gw_ld rfl rfl ?_
    refine z_gR (q := 54) (zT S (by decide) rfl) (zRf S (by decide) (by decide) rfl) (by decide) ?_
    refine gw_ld rfl rfl ?_
    refine z_iaV (n := 6000) (zT S (by decide) rfl) (zN S (by decide) rfl) (by omega) (zW_f F (fun c => c) (fun c => c)) ?_
    generalize ex7 : ez_I h 54 k.toInt.toNat = x7
    have rx7 := z_rng x7
    refine z_C (m := 511) rfl rfl (fun x8 ex8 => ?_)
    refine z_and (fun x9 ex9 ux9 wx9 => ?_)
    have rx9 := z_rng x9
    replace ux9 := ux9 (by omega)
    clear wx9
    have vx9 := n_mask (k := 9) (by decide) (by omega) ex9
    rw [show (2 : Int) ^ 9 = 512 from rfl] at vx9
    refine z_go ?_
    refine gw_skip _ ?_
    refine z_ri ?_
    exact zW_Q F (K _ (by rw [ex7]; omega))
set_option maxRecDepth 4000 in
set_option maxHeartbeats 20000000 in
theorem c_pdistance {E : Nat → Nat × (Nat → Int32)} {d : Nat} {Q : ez_Q} {h : ez_H} {k : Int32} (S : zSh h) (hk : 0 ≤ k.toInt ∧ k.toInt < (ez_I h 53 1).toInt ∧ (ez_I h 53 1).toInt ≤ 6000) (K : ∀ x : Int32, x.toInt = (ez_I h 54 k.toInt.toNat).toInt / 512 → Q (.inl (some (.int x))) h) : pw E (d + 1) 126 0 [some (.ref 53), some (.int k)] [] h Q := by
  have gk := z_rng k
  have F := zW_refl (fun _ _ => False) (fun _ => False) (fun _ => False) h
  apply ez_Wp_in
  show ez_gw _ _ _ _ _ _ (cz_126) _ _ _ _ _
  refine gw_skip _ ?_
  refine gw_ld rfl rfl ?_
  refine gw_ld rfl rfl ?_
  refine z_cl rfl rfl rfl rfl rfl rfl rfl rfl rfl rfl rfl (zT S (by decide) rfl) ?_
  refine c_phas S (k := k) (fun x1 k2 k3 k4 => ?_)
  have rx1 := z_rng x1
  refine z_b1 (fun c5 => ?_) (fun c5 => ?_)
  · have c5 : x1.toInt = 0 := c5
    refine gw_skip _ ?_
    refine z_C (m := 0) rfl rfl (fun x6 ex6 => ?_)
    refine z_ri ?_
    exfalso; omega
  · have c5 : ¬ (x1.toInt = 0) := c5
    refine gw_ld rfl rfl ?_
    refine z_gR (q := 54) (zT S (by decide) rfl) (zRf S (by decide) (by decide) rfl) (by decide) ?_
    refine gw_ld rfl rfl ?_
    refine z_iaV (n := 6000) (zT S (by decide) rfl) (zN S (by decide) rfl) (by omega) (zW_f F (fun c => c) (fun c => c)) ?_
    generalize ex7 : ez_I h 54 k.toInt.toNat = x7
    have rx7 := z_rng x7
    refine z_C (m := 9) rfl rfl (fun x8 ex8 => ?_)
    refine z_2 rfl (fun x9 ex9 => ?_)
    have rx9 := z_rng x9
    have vx9 := n_shr (n := 9) (by omega) (by decide) ex9
    rw [show (2 : Int) ^ 9 = 512 from rfl] at vx9
    refine z_go ?_
    refine gw_skip _ ?_
    refine z_ri ?_
    exact zW_Q F (K _ (by rw [ex7]; omega))
set_option maxRecDepth 4000 in
set_option maxHeartbeats 20000000 in
theorem c_split_L0 {E : Nat → Nat × (Nat → Int32)} {d : Nat} {Q : ez_Q} {h : ez_H}  (S : zSh h) (hz : 0 ≤ (ez_I h 2 1).toInt ∧ (ez_I h 2 1).toInt ≤ 6000) (hb : aR (ez_I h 3) (ez_I h 2 1).toInt.toNat 0 255) (K : ∀ h2, zW (fun q k => q = 53 ∧ k = 1 ∨ q = 58 ∧ k = 2) (fun q => q = 54 ∨ q = 59 ∨ q = 60) (fun _ => False) h h2 → ∀ c : Nat, (ez_I h2 53 1).toInt = c → ptP (tI (ez_I h 3)) (ez_I h 2 1).toInt.toNat c = (ez_I h 2 1).toInt.toNat → ltP (tI (ez_I h 3)) (ez_I h 2 1).toInt.toNat c → pqI (ez_I h2 54) (tI (ez_I h 3)) (ez_I h 2 1).toInt.toNat c → Q (.inl none) h2) : ∀ N : Nat, (∀ (h2 : ez_H) (pl : Int32) (l : Int32) (ds : Int32) (i : Int32) (l6 : Option Value) (Nn : Nat) (c : Nat), zW (fun q k => q = 53 ∧ k = 1 ∨ q = 58 ∧ k = 2) (fun q => q = 54 ∨ q = 59 ∨ q = 60) (fun _ => False) h h2 → (i.toInt = c ∧ (ez_I h2 53 1).toInt = c ∧ pl.toInt = (ptP (tI (ez_I h 3)) (ez_I h 2 1).toInt.toNat c : Nat) ∧ pl.toInt ≤ (ez_I h 2 1).toInt ∧ l.toInt = (mL (tI (ez_I h 3)) (ez_I h 2 1).toInt.toNat pl.toInt.toNat : Nat) ∧ (0 < l.toInt → ds.toInt = (mD (tI (ez_I h 3)) (ez_I h 2 1).toInt.toNat pl.toInt.toNat : Nat)) ∧ (ez_I h 2 1).toInt ≤ Nn + 2 ∧ i.toInt ≤ (ez_I h 2 1).toInt) → chn (tI (ez_I h2 60)) (spK (ez_I h 3)) Nn → pqI (ez_I h2 54) (tI (ez_I h 3)) (ez_I h 2 1).toInt.toNat c → ltP (tI (ez_I h 3)) (ez_I h 2 1).toInt.toNat c → (10000 - i.toInt) < (N : Int) → pw E (d + 2) 115 41 [some (.ref 52), some (.ref 2), some (.int pl), some (.int l), some (.int ds), some (.int i), l6] [] h2 Q) := by
  intro N
  induction N with
  | zero => exact fun h2 pl l ds i l6 Nn c F hinv A_ch A_pq A_lt hm => absurd hm (by have w_pl := z_rng pl; have w_l := z_rng l; have w_ds := z_rng ds; have w_i := z_rng i; omega)
  | succ N ih =>
    refine fun h2 pl l ds i l6 Nn c F hinv A_ch A_pq A_lt hm => ?_
    · skip
      have w_pl := z_rng pl
      have w_l := z_rng l
      have w_ds := z_rng ds
      have w_i := z_rng i
      have S2 := zW_sh F S
      obtain ⟨hi1, hi2, hi3, hi4, hi5, hi6, hi7, hi8⟩ := hinv
      have hpl : ptP (tI (ez_I h 3)) (ez_I h 2 1).toInt.toNat c = pl.toInt.toNat := by omega
      have hml := hi5
      have hk := mL_ok (tI (ez_I h 3)) (ez_I h 2 1).toInt.toNat pl.toInt.toNat
      have hk2 := mL_ok (tI (ez_I h 3)) (ez_I h 2 1).toInt.toNat (pl.toInt.toNat + 1)
      have hcp := ptP_k c A_lt
      have hpp : pl.toInt.toNat < (ez_I h 2 1).toInt.toNat → _ := fun q => ptP_s (T := (tI (ez_I h 3))) (n := (ez_I h 2 1).toInt.toNat) (k := c) (by omega)
      apply ez_Wp_in
      show ez_gw _ _ _ _ _ _ (cz_115) _ _ _ _ _
      refine gw_skip _ ?_
      have r1 := z_rng (ez_I h2 53 1)
      have r2 := z_rng (ez_I h2 58 2)
      refine gw_ld rfl rfl ?_
      refine gw_ld rfl rfl ?_
      have r3 := z_rng (ez_I h 2 1)
      refine z_gI2 (by decide) (zT S2 (by decide) rfl) (zW_f F (by decide) (by decide)) ?_
      refine z_b2 (fun c4 => ?_) (fun c4 => ?_)
      · have c4 : ((ez_I h 2 1)).toInt ≤ i.toInt := c4
        refine gw_skip _ ?_
        refine z_rv ?_
        exact K _ F c (by omega) (by omega) A_lt A_pq
      · have c4 : ¬ (((ez_I h 2 1)).toInt ≤ i.toInt) := c4
        refine gw_ld rfl rfl ?_
        refine gw_ld rfl rfl ?_
        refine z_gI2 (by decide) (zT S2 (by decide) rfl) (zW_f F (by decide) (by decide)) ?_
        refine z_b2 (fun c5 => ?_) (fun c5 => ?_)
        · have c5 : ((ez_I h 2 1)).toInt ≤ pl.toInt := c5
          refine gw_skip _ ?_
          refine z_rv ?_
          exact K _ F c (by omega) (by omega) A_lt A_pq
        · have c5 : ¬ (((ez_I h 2 1)).toInt ≤ pl.toInt) := c5
          refine gw_ld rfl rfl ?_
          refine z_gR (q := 58) (zT S2 (by decide) rfl) (zRf S2 (by decide) (by decide) rfl) (by decide) ?_
          refine gw_ld rfl rfl ?_
          refine gw_ld rfl rfl ?_
          refine z_C (m := 1) rfl rfl (fun x6 ex6 => ?_)
          refine z_add (by omega) (fun x7 ex7 => ?_)
          refine gw_ld rfl rfl ?_
          refine z_cl rfl rfl rfl rfl rfl rfl rfl rfl rfl rfl rfl (zT S2 (by decide) rfl) ?_
          refine c_search (p := x7) (l := l) (N := Nn) S2 (by rw [(show ez_I h2 2 1 = ez_I h 2 1 from zW_f F (by decide) (by decide))]; omega) (by rw [(show ez_I h2 3 = ez_I h 3 from zW_fn F 3 (by decide) (fun k c => by omega))]; exact A_ch) (by rw [(show ez_I h2 2 1 = ez_I h 2 1 from zW_f F (by decide) (by decide))]; omega) (by rw [(show ez_I h2 2 1 = ez_I h 2 1 from zW_f F (by decide) (by decide))]; omega) (by omega) (fun h8 x10 F9 k11 k12 => ?_)
          have rx10 := z_rng x10
          rw [(show ez_I h2 3 = ez_I h 3 from zW_fn F 3 (by decide) (fun k c => by omega)), (show ez_I h2 2 1 = ez_I h 2 1 from zW_f F (by decide) (by decide))] at k11
          have S13 := zW_sh F9 S2
          have F14 := zW_tr F (zW_mono F9 (fun q k hk => by first | omega | exact False.elim hk) (fun q hk => by first | omega | exact False.elim hk) (fun q hk => by first | omega | exact False.elim hk))
          have f15 : ez_I h8 53 1 = (ez_I h2 53 1) := (zW_f F9 (fun c => c) (by decide)).trans (rfl)
          have r16 := z_rng (ez_I h8 58 2)
          have A17 : chn (tI (ez_I h8 60)) (spK (ez_I h 3)) Nn := by rw [zW_fn F9 60 (fun c => c) (fun k c => by omega)]; exact A_ch
          have A18 : pqI (ez_I h8 54) (tI (ez_I h 3)) (ez_I h 2 1).toInt.toNat c := by rw [zW_fn F9 54 (fun c => c) (fun k c => by omega)]; exact A_pq
          rw [show x7.toInt.toNat = pl.toInt.toNat + 1 by omega] at k11
          have m3 := sr_l (l := l.toInt) k11 (by omega) rfl
          refine gw_st rfl rfl rfl ?_
          show ez_gw _ _ _ _ _ _ _ _ [some (.ref 52), some (.ref 2), some (.int pl), some (.int l), some (.int ds), some (.int i), some (.int x10)] _ _ _
          refine gw_ld rfl rfl ?_
          refine z_b1 (fun c19 => ?_) (fun c19 => ?_)
          · have c19 : l.toInt = 0 := c19
            refine gw_skip _ ?_
            refine gw_ld rfl rfl ?_
            refine z_gR (q := 53) (zT S13 (by decide) rfl) (zRf S13 (by decide) (by decide) rfl) (by decide) ?_
            refine gw_ld rfl rfl ?_
            refine z_gR (q := 3) (zT S13 (by decide) rfl) (zRf S13 (by decide) (by decide) rfl) (by decide) ?_
            refine gw_ld rfl rfl ?_
            refine z_iaV (n := 6100) (zT S13 (by decide) rfl) (zN S13 (by decide) rfl) (by omega) (zW_f F14 (by decide) (by omega)) ?_
            generalize ex20 : ez_I h 3 pl.toInt.toNat = x20
            have rx20 := z_rng x20
            have yx20 := hb pl.toInt.toNat (by omega)
            rw [ex20] at yx20
            refine z_C (m := 0) rfl rfl (fun x21 ex21 => ?_)
            have t22 := congrArg Int32.toInt (f15)
            refine z_cl rfl rfl rfl rfl rfl rfl rfl rfl rfl rfl rfl (zT S13 (by decide) rfl) ?_
            obtain ⟨u1, u2, u3⟩ := pt_lit (x := x10.toInt) (l := l.toInt) hpl hml (by omega)
            rw [show tI (ez_I h 3) pl.toInt.toNat = x20.toInt from congrArg Int32.toInt ex20] at u3
            refine c_padd (a := x20) (ds := x21) S13 (by omega) (by omega) (by omega) (fun h23 F24 k25 k26 k27 => ?_)
            rw [(show (ez_I h8 53 1).toInt.toNat = c by omega)] at k26 k27
            have S28 := zW_sh F24 S13
            have F29 := zW_tr F14 (zW_mono F24 (fun q k hk => by first | omega | exact False.elim hk) (fun q hk => by first | omega | exact False.elim hk) (fun q hk => by first | omega | exact False.elim hk))
            have r30 := z_rng (ez_I h23 53 1)
            have f31 : ez_I h23 58 2 = (ez_I h8 58 2) := (zW_f F24 (by decide) (by decide)).trans (rfl)
            have A32 : chn (tI (ez_I h23 60)) (spK (ez_I h 3)) Nn := by rw [zW_fn F24 60 (by decide) (fun k c => by omega)]; exact A17
            clear A17
            refine z_inc rfl (by rw [show (1 : Int32).toInt = 1 from rfl]; omega) (fun x33 ex33 => ?_)
            rw [show (1 : Int32).toInt = 1 from rfl] at ex33
            show ez_gw _ _ _ _ _ _ _ _ [some (.ref 52), some (.ref 2), some (.int x33), some (.int l), some (.int ds), some (.int i), some (.int x10)] _ _ _
            refine gw_ld rfl rfl ?_
            refine gw_st rfl rfl rfl ?_
            show ez_gw _ _ _ _ _ _ _ _ [some (.ref 52), some (.ref 2), some (.int x33), some (.int x10), some (.int ds), some (.int i), some (.int x10)] _ _ _
            refine z_go ?_
            refine gw_skip _ ?_
            refine gw_ld rfl rfl ?_
            refine z_gR (q := 58) (zT S28 (by decide) rfl) (zRf S28 (by decide) (by decide) rfl) (by decide) ?_
            refine z_gI2 (by decide) (zT S28 (by decide) rfl) (f31) ?_
            refine gw_st rfl rfl rfl ?_
            show ez_gw _ _ _ _ _ _ _ _ [some (.ref 52), some (.ref 2), some (.int x33), some (.int x10), some (.int (ez_I h8 58 2)), some (.int i), some (.int x10)] _ _ _
            refine z_inc rfl (by rw [show (1 : Int32).toInt = 1 from rfl]; omega) (fun x34 ex34 => ?_)
            rw [show (1 : Int32).toInt = 1 from rfl] at ex34
            show ez_gw _ _ _ _ _ _ _ _ [some (.ref 52), some (.ref 2), some (.int x33), some (.int x10), some (.int (ez_I h8 58 2)), some (.int x34), some (.int x10)] _ _ _
            refine z_go ?_
            have t35 := congrArg Int32.toInt (f31)
            have hpn : x33.toInt.toNat = pl.toInt.toNat + 1 := by omega
            exact ih h23 x33 x10 (ez_I h8 58 2) x34 (some (.int x10)) Nn (c + 1) F29 (⟨by omega, by omega, by omega, by omega, by rw [hpn]; omega, by rw [hpn]; exact fun q => by omega, by omega, by omega⟩) A32 ((pqI_s A18 k26 k27 rfl (by omega) (by omega) rfl)) (ltP_s A_lt (by omega) rfl) (by omega)
          · have c19 : ¬ (l.toInt = 0) := c19
            refine gw_ld rfl rfl ?_
            refine z_b1 (fun c36 => ?_) (fun c36 => ?_)
            · have c36 : x10.toInt ≤ 0 := c36
              refine gw_skip _ ?_
              refine gw_ld rfl rfl ?_
              refine z_gR (q := 53) (zT S13 (by decide) rfl) (zRf S13 (by decide) (by decide) rfl) (by decide) ?_
              refine gw_ld rfl rfl ?_
              refine gw_ld rfl rfl ?_
              have t37 := congrArg Int32.toInt (f15)
              refine z_cl rfl rfl rfl rfl rfl rfl rfl rfl rfl rfl rfl (zT S13 (by decide) rfl) ?_
              obtain ⟨u1, u2, u3, u4⟩ := pt_mat (l := l.toInt) (ds := ds.toInt) hpl hml (by omega) (by omega) (by omega)
              refine c_padd (a := l) (ds := ds) S13 (by omega) (by omega) (by omega) (fun h38 F39 k40 k41 k42 => ?_)
              rw [(show (ez_I h8 53 1).toInt.toNat = c by omega)] at k41 k42
              have S43 := zW_sh F39 S13
              have F44 := zW_tr F14 (zW_mono F39 (fun q k hk => by first | omega | exact False.elim hk) (fun q hk => by first | omega | exact False.elim hk) (fun q hk => by first | omega | exact False.elim hk))
              have r45 := z_rng (ez_I h38 53 1)
              have f46 : ez_I h38 58 2 = (ez_I h8 58 2) := (zW_f F39 (by decide) (by decide)).trans (rfl)
              have A47 : chn (tI (ez_I h38 60)) (spK (ez_I h 3)) Nn := by rw [zW_fn F39 60 (by decide) (fun k c => by omega)]; exact A17
              clear A17
              refine gw_ld rfl rfl ?_
              refine gw_ld rfl rfl ?_
              refine z_add (by omega) (fun x48 ex48 => ?_)
              refine gw_st rfl rfl rfl ?_
              show ez_gw _ _ _ _ _ _ _ _ [some (.ref 52), some (.ref 2), some (.int x48), some (.int l), some (.int ds), some (.int i), some (.int x10)] _ _ _
              refine gw_ld rfl rfl ?_
              refine z_gR (q := 58) (zT S43 (by decide) rfl) (zRf S43 (by decide) (by decide) rfl) (by decide) ?_
              refine gw_ld rfl rfl ?_
              refine gw_ld rfl rfl ?_
              refine z_C (m := 0) rfl rfl (fun x49 ex49 => ?_)
              have t50 := congrArg Int32.toInt (f46)
              refine z_cl rfl rfl rfl rfl rfl rfl rfl rfl rfl rfl rfl (zT S43 (by decide) rfl) ?_
              refine c_search (p := x48) (l := x49) (N := Nn) S43 (by rw [(show ez_I h38 2 1 = ez_I h 2 1 from zW_f F44 (by decide) (by decide))]; omega) (by rw [(show ez_I h38 3 = ez_I h 3 from zW_fn F44 3 (by decide) (fun k c => by omega))]; exact A47) (by rw [(show ez_I h38 2 1 = ez_I h 2 1 from zW_f F44 (by decide) (by decide))]; omega) (by rw [(show ez_I h38 2 1 = ez_I h 2 1 from zW_f F44 (by decide) (by decide))]; omega) (by omega) (fun h51 x53 F52 k54 k55 => ?_)
              have rx53 := z_rng x53
              rw [(show ez_I h38 3 = ez_I h 3 from zW_fn F44 3 (by decide) (fun k c => by omega)), (show ez_I h38 2 1 = ez_I h 2 1 from zW_f F44 (by decide) (by decide))] at k54
              have S56 := zW_sh F52 S43
              have F57 := zW_tr F44 (zW_mono F52 (fun q k hk => by first | omega | exact False.elim hk) (fun q hk => by first | omega | exact False.elim hk) (fun q hk => by first | omega | exact False.elim hk))
              have f58 : ez_I h51 53 1 = (ez_I h38 53 1) := (zW_f F52 (fun c => c) (by decide)).trans (rfl)
              have r59 := z_rng (ez_I h51 58 2)
              have A60 : chn (tI (ez_I h51 60)) (spK (ez_I h 3)) Nn := by rw [zW_fn F52 60 (fun c => c) (fun k c => by omega)]; exact A47
              have A61 : pqI (ez_I h51 54) (tI (ez_I h 3)) (ez_I h 2 1).toInt.toNat (c + 1) := by rw [zW_fn F52 54 (fun c => c) (fun k c => by omega)]; exact (pqI_s A18 k41 k42 rfl (by omega) (by omega) rfl)
              clear A47
              obtain ⟨m1, m2⟩ := sr_0 k54 (by omega)
              refine gw_st rfl rfl rfl ?_
              show ez_gw _ _ _ _ _ _ _ _ [some (.ref 52), some (.ref 2), some (.int x48), some (.int x53), some (.int ds), some (.int i), some (.int x10)] _ _ _
              refine gw_ld rfl rfl ?_
              refine z_gR (q := 58) (zT S56 (by decide) rfl) (zRf S56 (by decide) (by decide) rfl) (by decide) ?_
              refine z_gI2 (by decide) (zT S56 (by decide) rfl) (rfl) ?_
              refine gw_st rfl rfl rfl ?_
              show ez_gw _ _ _ _ _ _ _ _ [some (.ref 52), some (.ref 2), some (.int x48), some (.int x53), some (.int (ez_I h51 58 2)), some (.int i), some (.int x10)] _ _ _
              refine z_inc rfl (by rw [show (1 : Int32).toInt = 1 from rfl]; omega) (fun x62 ex62 => ?_)
              rw [show (1 : Int32).toInt = 1 from rfl] at ex62
              show ez_gw _ _ _ _ _ _ _ _ [some (.ref 52), some (.ref 2), some (.int x48), some (.int x53), some (.int (ez_I h51 58 2)), some (.int x62), some (.int x10)] _ _ _
              refine z_go ?_
              have t63 := congrArg Int32.toInt (f58)
              have hpn : x48.toInt.toNat = (pl.toInt + l.toInt).toNat := by omega
              exact ih h51 x48 x53 (ez_I h51 58 2) x62 (some (.int x10)) Nn (c + 1) F57 (⟨by omega, by omega, by omega, by omega, m1, m2, by omega, by omega⟩) A60 (A61) (ltP_s A_lt (by omega) rfl) (by omega)
            · have c36 : ¬ (x10.toInt ≤ 0) := c36
              refine gw_ld rfl rfl ?_
              refine z_gR (q := 53) (zT S13 (by decide) rfl) (zRf S13 (by decide) (by decide) rfl) (by decide) ?_
              refine gw_ld rfl rfl ?_
              refine z_gR (q := 3) (zT S13 (by decide) rfl) (zRf S13 (by decide) (by decide) rfl) (by decide) ?_
              refine gw_ld rfl rfl ?_
              refine z_iaV (n := 6100) (zT S13 (by decide) rfl) (zN S13 (by decide) rfl) (by omega) (zW_f F14 (by decide) (by omega)) ?_
              generalize ex64 : ez_I h 3 pl.toInt.toNat = x64
              have rx64 := z_rng x64
              have yx64 := hb pl.toInt.toNat (by omega)
              rw [ex64] at yx64
              refine z_C (m := 0) rfl rfl (fun x65 ex65 => ?_)
              have t66 := congrArg Int32.toInt (f15)
              refine z_cl rfl rfl rfl rfl rfl rfl rfl rfl rfl rfl rfl (zT S13 (by decide) rfl) ?_
              obtain ⟨u1, u2, u3⟩ := pt_lit (x := x10.toInt) (l := l.toInt) hpl hml (by omega)
              rw [show tI (ez_I h 3) pl.toInt.toNat = x64.toInt from congrArg Int32.toInt ex64] at u3
              refine c_padd (a := x64) (ds := x65) S13 (by omega) (by omega) (by omega) (fun h67 F68 k69 k70 k71 => ?_)
              rw [(show (ez_I h8 53 1).toInt.toNat = c by omega)] at k70 k71
              have S72 := zW_sh F68 S13
              have F73 := zW_tr F14 (zW_mono F68 (fun q k hk => by first | omega | exact False.elim hk) (fun q hk => by first | omega | exact False.elim hk) (fun q hk => by first | omega | exact False.elim hk))
              have r74 := z_rng (ez_I h67 53 1)
              have f75 : ez_I h67 58 2 = (ez_I h8 58 2) := (zW_f F68 (by decide) (by decide)).trans (rfl)
              have A76 : chn (tI (ez_I h67 60)) (spK (ez_I h 3)) Nn := by rw [zW_fn F68 60 (by decide) (fun k c => by omega)]; exact A17
              clear A17
              refine z_inc rfl (by rw [show (1 : Int32).toInt = 1 from rfl]; omega) (fun x77 ex77 => ?_)
              rw [show (1 : Int32).toInt = 1 from rfl] at ex77
              show ez_gw _ _ _ _ _ _ _ _ [some (.ref 52), some (.ref 2), some (.int x77), some (.int l), some (.int ds), some (.int i), some (.int x10)] _ _ _
              refine gw_ld rfl rfl ?_
              refine gw_st rfl rfl rfl ?_
              show ez_gw _ _ _ _ _ _ _ _ [some (.ref 52), some (.ref 2), some (.int x77), some (.int x10), some (.int ds), some (.int i), some (.int x10)] _ _ _
              refine z_go ?_
              refine gw_skip _ ?_
              refine gw_ld rfl rfl ?_
              refine z_gR (q := 58) (zT S72 (by decide) rfl) (zRf S72 (by decide) (by decide) rfl) (by decide) ?_
              refine z_gI2 (by decide) (zT S72 (by decide) rfl) (f75) ?_
              refine gw_st rfl rfl rfl ?_
              show ez_gw _ _ _ _ _ _ _ _ [some (.ref 52), some (.ref 2), some (.int x77), some (.int x10), some (.int (ez_I h8 58 2)), some (.int i), some (.int x10)] _ _ _
              refine z_inc rfl (by rw [show (1 : Int32).toInt = 1 from rfl]; omega) (fun x78 ex78 => ?_)
              rw [show (1 : Int32).toInt = 1 from rfl] at ex78
              show ez_gw _ _ _ _ _ _ _ _ [some (.ref 52), some (.ref 2), some (.int x77), some (.int x10), some (.int (ez_I h8 58 2)), some (.int x78), some (.int x10)] _ _ _
              refine z_go ?_
              have t79 := congrArg Int32.toInt (f75)
              have hpn : x77.toInt.toNat = pl.toInt.toNat + 1 := by omega
              exact ih h67 x77 x10 (ez_I h8 58 2) x78 (some (.int x10)) Nn (c + 1) F73 (⟨by omega, by omega, by omega, by omega, by rw [hpn]; omega, by rw [hpn]; exact fun q => by omega, by omega, by omega⟩) A76 ((pqI_s A18 k70 k71 rfl (by omega) (by omega) rfl)) (ltP_s A_lt (by omega) rfl) (by omega)
set_option maxRecDepth 4000 in
set_option maxHeartbeats 20000000 in
theorem c_split {E : Nat → Nat × (Nat → Int32)} {d : Nat} {Q : ez_Q} {h : ez_H}  (S : zSh h) (hz : 0 ≤ (ez_I h 2 1).toInt ∧ (ez_I h 2 1).toInt ≤ 6000) (hb : aR (ez_I h 3) (ez_I h 2 1).toInt.toNat 0 255) (K : ∀ h2, zW (fun q k => q = 53 ∧ k = 1 ∨ q = 58 ∧ k = 2) (fun q => q = 54 ∨ q = 59 ∨ q = 60) (fun _ => False) h h2 → ∀ c : Nat, (ez_I h2 53 1).toInt = c → ptP (tI (ez_I h 3)) (ez_I h 2 1).toInt.toNat c = (ez_I h 2 1).toInt.toNat → ltP (tI (ez_I h 3)) (ez_I h 2 1).toInt.toNat c → pqI (ez_I h2 54) (tI (ez_I h 3)) (ez_I h 2 1).toInt.toNat c → Q (.inl none) h2) : pw E (d + 2) 115 0 [some (.ref 52), some (.ref 2), none, none, none, none, none] [] h Q := by
  have F := zW_refl (fun q k => q = 53 ∧ k = 1 ∨ q = 58 ∧ k = 2) (fun q => q = 54 ∨ q = 59 ∨ q = 60) (fun _ => False) h
  apply ez_Wp_in
  show ez_gw _ _ _ _ _ _ (cz_115) _ _ _ _ _
  refine gw_skip _ ?_
  have r1 := z_rng (ez_I h 53 1)
  have r2 := z_rng (ez_I h 58 2)
  refine gw_ld rfl rfl ?_
  refine z_gR (q := 58) (zT S (by decide) rfl) (zRf S (by decide) (by decide) rfl) (by decide) ?_
  refine gw_ld rfl rfl ?_
  refine z_cl rfl rfl rfl rfl rfl rfl rfl rfl rfl rfl rfl (zT S (by decide) rfl) ?_
  refine c_chain S hz (fun h3 F4 n5 k6 k7 => ?_)
  have S8 := zW_sh F4 S
  have F9 := zW_tr F (zW_mono F4 (fun q k hk => by first | omega | exact False.elim hk) (fun q hk => by first | omega | exact False.elim hk) (fun q hk => by first | omega | exact False.elim hk))
  have f10 : ez_I h3 53 1 = (ez_I h 53 1) := (zW_f F4 (by decide) (fun c => c)).trans (rfl)
  have f11 : ez_I h3 58 2 = (ez_I h 58 2) := (zW_f F4 (by decide) (fun c => c)).trans (rfl)
  have hNn := k6
  refine gw_ld rfl rfl ?_
  refine z_gR (q := 53) (zT S8 (by decide) rfl) (zRf S8 (by decide) (by decide) rfl) (by decide) ?_
  refine z_C (m := 0) rfl rfl (fun x12 ex12 => ?_)
  refine z_pI (zT S8 (by decide) rfl) (fun h13 e14 => ?_)
  have S15 := zSh_set S8 e14
  have F16 := zW_setF F9 e14 (by omega)
  have f17 : ez_I h13 53 1 = x12 := zI_eq e14
  have f18 : ez_I h13 58 2 = (ez_I h 58 2) := (zI_ne e14 (by decide)).trans (f11)
  have A19 : chn (tI (ez_I h13 60)) (spK (ez_I h 3)) n5 := by rw [zI_fn e14 60 (by decide)]; exact k7
  refine z_C (m := 0) rfl rfl (fun x20 ex20 => ?_)
  refine gw_st rfl rfl rfl ?_
  show ez_gw _ _ _ _ _ _ _ _ [some (.ref 52), some (.ref 2), some (.int x20), none, none, none, none] _ _ _
  refine gw_ld rfl rfl ?_
  refine z_gR (q := 58) (zT S15 (by decide) rfl) (zRf S15 (by decide) (by decide) rfl) (by decide) ?_
  refine gw_ld rfl rfl ?_
  refine z_C (m := 0) rfl rfl (fun x21 ex21 => ?_)
  refine z_C (m := 0) rfl rfl (fun x22 ex22 => ?_)
  have t23 := congrArg Int32.toInt (f17)
  have t24 := congrArg Int32.toInt (f18)
  refine z_cl rfl rfl rfl rfl rfl rfl rfl rfl rfl rfl rfl (zT S15 (by decide) rfl) ?_
  refine c_search (p := x21) (l := x22) (N := n5) S15 (by rw [(show ez_I h13 2 1 = ez_I h 2 1 from zW_f F16 (by decide) (by decide))]; omega) (by rw [(show ez_I h13 3 = ez_I h 3 from zW_fn F16 3 (by decide) (fun k c => by omega))]; exact A19) (by rw [(show ez_I h13 2 1 = ez_I h 2 1 from zW_f F16 (by decide) (by decide))]; omega) (by rw [(show ez_I h13 2 1 = ez_I h 2 1 from zW_f F16 (by decide) (by decide))]; omega) (by omega) (fun h25 x27 F26 k28 k29 => ?_)
  have rx27 := z_rng x27
  rw [(show ez_I h13 3 = ez_I h 3 from zW_fn F16 3 (by decide) (fun k c => by omega)), (show ez_I h13 2 1 = ez_I h 2 1 from zW_f F16 (by decide) (by decide))] at k28
  have S30 := zW_sh F26 S15
  have F31 := zW_tr F16 (zW_mono F26 (fun q k hk => by first | omega | exact False.elim hk) (fun q hk => by first | omega | exact False.elim hk) (fun q hk => by first | omega | exact False.elim hk))
  have f32 : ez_I h25 53 1 = x12 := (zW_f F26 (fun c => c) (by decide)).trans (f17)
  have r33 := z_rng (ez_I h25 58 2)
  have A34 : chn (tI (ez_I h25 60)) (spK (ez_I h 3)) n5 := by rw [zW_fn F26 60 (fun c => c) (fun k c => by omega)]; exact A19
  clear A19
  rw [show x21.toInt.toNat = 0 by omega] at k28
  obtain ⟨m1, m2⟩ := sr_0 k28 (by omega)
  refine gw_st rfl rfl rfl ?_
  show ez_gw _ _ _ _ _ _ _ _ [some (.ref 52), some (.ref 2), some (.int x20), some (.int x27), none, none, none] _ _ _
  refine gw_ld rfl rfl ?_
  refine z_gR (q := 58) (zT S30 (by decide) rfl) (zRf S30 (by decide) (by decide) rfl) (by decide) ?_
  refine z_gI2 (by decide) (zT S30 (by decide) rfl) (rfl) ?_
  refine gw_st rfl rfl rfl ?_
  show ez_gw _ _ _ _ _ _ _ _ [some (.ref 52), some (.ref 2), some (.int x20), some (.int x27), some (.int (ez_I h25 58 2)), none, none] _ _ _
  refine z_C (m := 0) rfl rfl (fun x35 ex35 => ?_)
  refine gw_st rfl rfl rfl ?_
  show ez_gw _ _ _ _ _ _ _ _ [some (.ref 52), some (.ref 2), some (.int x20), some (.int x27), some (.int (ez_I h25 58 2)), some (.int x35), none] _ _ _
  have t36 := congrArg Int32.toInt (f32)
  exact ez_Wp_at ((c_split_L0  S hz hb K (((10000 - x35.toInt)).toNat + 1)) h25 x20 x27 (ez_I h25 58 2) x35 (none) n5 0 F31 (⟨by omega, by omega, by show x20.toInt = ((0 : Nat) : Int); omega, by omega, by rw [show x20.toInt.toNat = 0 by omega]; first | exact m1 | omega, by rw [show x20.toInt.toNat = 0 by omega]; exact fun q => by have := m2 q; omega, by omega, by omega⟩) A34 (pqI_0 _ _ _) (ltP_0 _ _) (by omega)) rfl
