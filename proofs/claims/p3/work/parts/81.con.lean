/-! PRINTED by wip/p17/con8.py: contracts of the model, the plain calls -/
set_option maxRecDepth 4000 in
set_option maxHeartbeats 20000000 in
theorem m_feed_L0 {E : Nat → Nat × (Nat → Int32)} {d : Nat} {Q : ez_Q} {h : ez_H} {a : Int32} {b : Int32} {c : Int32} {d1 : Int32} {e : Int32} (S : zSh h) (M : mI h) (K : ∀ h2, zF zY h h2 → mI h2 → Q (.inl none) h2) : ∀ N : Nat, (∀ (h2 : ez_H) (i : Int32) (l7 : Option Value) , zG (fun k => k = 0) (fun q => q = 74) h h2 → (0 ≤ i.toInt ∧ i.toInt ≤ 4) → (2147483647 - i.toInt) < (N : Int) → pw E d 25 8 [some (.ref 71), some (.int a), some (.int b), some (.int c), some (.int d1), some (.int e), some (.int i), l7] [] h2 Q) := by
  intro N
  induction N with
  | zero => exact fun h2 i l7  F hinv  hm => absurd hm (by have w_i := z_rng i; have ga := z_rng a; have gb := z_rng b; have gc := z_rng c; have gd1 := z_rng d1; have ge := z_rng e; have M6 := M.1.1; have M7 := M.1.2.1; have M14 := M.1.2.2.1; have M15 := M.1.2.2.2; have MC := M.2; omega)
  | succ N ih =>
    refine fun h2 i l7  F hinv  hm => ?_
    · skip
      have w_i := z_rng i
      have ga := z_rng a
      have gb := z_rng b
      have gc := z_rng c
      have gd1 := z_rng d1
      have ge := z_rng e
      have M6 := M.1.1
      have M7 := M.1.2.1
      have M14 := M.1.2.2.1
      have M15 := M.1.2.2.2
      have MC := M.2
      have S2 := zG_sh F S
      apply ez_Wp_in
      show ez_gw _ _ _ _ _ _ (cz_25) _ _ _ _ _
      refine gw_skip _ ?_
      have r1 := z_rng (ez_I h2 71 0)
      refine gw_ld rfl rfl ?_
      refine z_C (m := 4) rfl rfl (fun x2 ex2 => ?_)
      refine z_b2 (fun c3 => ?_) (fun c3 => ?_)
      · have c3 : x2.toInt ≤ i.toInt := c3
        refine gw_skip _ ?_
        refine z_rv ?_
        have t4 := congrArg Int32.toInt (zG_f F (k := 6) (by decide))
        have t5 := congrArg Int32.toInt (zG_f F (k := 7) (by decide))
        have t6 := congrArg Int32.toInt (zG_f F (k := 14) (by decide))
        have t7 := congrArg Int32.toInt (zG_f F (k := 15) (by decide))
        exact K _ (zG_Y F (fun q hq => by first | omega | exact False.elim hq)) (mI_G M F (fun q hq => by first | omega | exact fun c => c) (by omega)) 
      · have c3 : ¬ (x2.toInt ≤ i.toInt) := c3
        refine z_C (m := 24) rfl rfl (fun x8 ex8 => ?_)
        refine z_C (m := 8) rfl rfl (fun x9 ex9 => ?_)
        refine gw_ld rfl rfl ?_
        refine z_mulL (c := 8) ex9 (by omega) (fun x10 ex10 => ?_)
        refine z_sub (by omega) (fun x11 ex11 => ?_)
        refine gw_st rfl rfl rfl ?_
        show ez_gw _ _ _ _ _ _ _ _ [some (.ref 71), some (.int a), some (.int b), some (.int c), some (.int d1), some (.int e), some (.int i), some (.int x11)] _ _ _
        refine gw_ld rfl rfl ?_
        refine z_gR (q := 74) (zT S2 (by decide) rfl) (zRf S2 (by decide) (by decide) rfl) (by decide) ?_
        refine gw_ld rfl rfl ?_
        refine gw_ld rfl rfl ?_
        refine gw_ld rfl rfl ?_
        refine z_2 rfl (fun x12 ex12 => ?_)
        have rx12 := z_rng x12
        refine z_1 rfl (fun x13 ex13 => ?_)
        have rx13 := z_rng x13
        refine z_bs (n := 20) (zT S2 (by decide) rfl) (zN S2 (by decide) rfl) (by omega) (fun h14 e15 => ?_)
        have S16 := zSh_set S2 e15
        have F17 := zG_setA F e15 (by decide) (by decide)
        have f18 : ez_I h14 71 0 = (ez_I h2 71 0) := (zI_ne e15 (by omega)).trans (rfl)
        refine gw_ld rfl rfl ?_
        refine z_gR (q := 74) (zT S16 (by decide) rfl) (zRf S16 (by decide) (by decide) rfl) (by decide) ?_
        refine z_C (m := 4) rfl rfl (fun x19 ex19 => ?_)
        refine gw_ld rfl rfl ?_
        refine z_add (by omega) (fun x20 ex20 => ?_)
        refine gw_ld rfl rfl ?_
        refine gw_ld rfl rfl ?_
        refine z_2 rfl (fun x21 ex21 => ?_)
        have rx21 := z_rng x21
        refine z_1 rfl (fun x22 ex22 => ?_)
        have rx22 := z_rng x22
        refine z_bs (n := 20) (zT S16 (by decide) rfl) (zN S16 (by decide) rfl) (by omega) (fun h23 e24 => ?_)
        have S25 := zSh_set S16 e24
        have F26 := zG_setA F17 e24 (by decide) (by decide)
        have f27 : ez_I h23 71 0 = (ez_I h2 71 0) := (zI_ne e24 (by omega)).trans (f18)
        refine gw_ld rfl rfl ?_
        refine z_gR (q := 74) (zT S25 (by decide) rfl) (zRf S25 (by decide) (by decide) rfl) (by decide) ?_
        refine z_C (m := 8) rfl rfl (fun x28 ex28 => ?_)
        refine gw_ld rfl rfl ?_
        refine z_add (by omega) (fun x29 ex29 => ?_)
        refine gw_ld rfl rfl ?_
        refine gw_ld rfl rfl ?_
        refine z_2 rfl (fun x30 ex30 => ?_)
        have rx30 := z_rng x30
        refine z_1 rfl (fun x31 ex31 => ?_)
        have rx31 := z_rng x31
        refine z_bs (n := 20) (zT S25 (by decide) rfl) (zN S25 (by decide) rfl) (by omega) (fun h32 e33 => ?_)
        have S34 := zSh_set S25 e33
        have F35 := zG_setA F26 e33 (by decide) (by decide)
        have f36 : ez_I h32 71 0 = (ez_I h2 71 0) := (zI_ne e33 (by omega)).trans (f27)
        refine gw_ld rfl rfl ?_
        refine z_gR (q := 74) (zT S34 (by decide) rfl) (zRf S34 (by decide) (by decide) rfl) (by decide) ?_
        refine z_C (m := 12) rfl rfl (fun x37 ex37 => ?_)
        refine gw_ld rfl rfl ?_
        refine z_add (by omega) (fun x38 ex38 => ?_)
        refine gw_ld rfl rfl ?_
        refine gw_ld rfl rfl ?_
        refine z_2 rfl (fun x39 ex39 => ?_)
        have rx39 := z_rng x39
        refine z_1 rfl (fun x40 ex40 => ?_)
        have rx40 := z_rng x40
        refine z_bs (n := 20) (zT S34 (by decide) rfl) (zN S34 (by decide) rfl) (by omega) (fun h41 e42 => ?_)
        have S43 := zSh_set S34 e42
        have F44 := zG_setA F35 e42 (by decide) (by decide)
        have f45 : ez_I h41 71 0 = (ez_I h2 71 0) := (zI_ne e42 (by omega)).trans (f36)
        refine gw_ld rfl rfl ?_
        refine z_gR (q := 74) (zT S43 (by decide) rfl) (zRf S43 (by decide) (by decide) rfl) (by decide) ?_
        refine z_C (m := 16) rfl rfl (fun x46 ex46 => ?_)
        refine gw_ld rfl rfl ?_
        refine z_add (by omega) (fun x47 ex47 => ?_)
        refine gw_ld rfl rfl ?_
        refine gw_ld rfl rfl ?_
        refine z_2 rfl (fun x48 ex48 => ?_)
        have rx48 := z_rng x48
        refine z_1 rfl (fun x49 ex49 => ?_)
        have rx49 := z_rng x49
        refine z_bs (n := 20) (zT S43 (by decide) rfl) (zN S43 (by decide) rfl) (by omega) (fun h50 e51 => ?_)
        have S52 := zSh_set S43 e51
        have F53 := zG_setA F44 e51 (by decide) (by decide)
        have f54 : ez_I h50 71 0 = (ez_I h2 71 0) := (zI_ne e51 (by omega)).trans (f45)
        refine z_inc rfl (by rw [show (1 : Int32).toInt = 1 from rfl]; omega) (fun x55 ex55 => ?_)
        rw [show (1 : Int32).toInt = 1 from rfl] at ex55
        show ez_gw _ _ _ _ _ _ _ _ [some (.ref 71), some (.int a), some (.int b), some (.int c), some (.int d1), some (.int e), some (.int x55), some (.int x11)] _ _ _
        refine z_go ?_
        have t56 := congrArg Int32.toInt (f54)
        exact ih h50 x55 (some (.int x11)) F53 (by omega)  (by omega)
set_option maxRecDepth 4000 in
set_option maxHeartbeats 20000000 in
theorem m_feed {E : Nat → Nat × (Nat → Int32)} {d : Nat} {Q : ez_Q} {h : ez_H} {a : Int32} {b : Int32} {c : Int32} {d1 : Int32} {e : Int32} (S : zSh h) (M : mI h) (K : ∀ h2, zF zY h h2 → mI h2 → Q (.inl none) h2) : pw E d 25 0 [some (.ref 71), some (.int a), some (.int b), some (.int c), some (.int d1), some (.int e), none, none] [] h Q := by
  have ga := z_rng a
  have gb := z_rng b
  have gc := z_rng c
  have gd1 := z_rng d1
  have ge := z_rng e
  have M6 := M.1.1
  have M7 := M.1.2.1
  have M14 := M.1.2.2.1
  have M15 := M.1.2.2.2
  have MC := M.2
  have F := zG_refl (fun k => k = 0) (fun q => q = 74) h
  apply ez_Wp_in
  show ez_gw _ _ _ _ _ _ (cz_25) _ _ _ _ _
  refine gw_skip _ ?_
  have r1 := z_rng (ez_I h 71 0)
  refine gw_ld rfl rfl ?_
  refine z_C (m := 0) rfl rfl (fun x2 ex2 => ?_)
  refine z_pI (zT S (by decide) rfl) (fun h3 e4 => ?_)
  have S5 := zSh_set S e4
  have F6 := zG_setF F e4 (by decide)
  have f7 : ez_I h3 71 0 = x2 := zI_eq e4
  refine z_C (m := 0) rfl rfl (fun x8 ex8 => ?_)
  refine gw_st rfl rfl rfl ?_
  show ez_gw _ _ _ _ _ _ _ _ [some (.ref 71), some (.int a), some (.int b), some (.int c), some (.int d1), some (.int e), some (.int x8), none] _ _ _
  have t9 := congrArg Int32.toInt (f7)
  exact ez_Wp_at ((m_feed_L0 (a := a) (b := b) (c := c) (d1 := d1) (e := e) S M K (((2147483647 - x8.toInt)).toNat + 1)) h3 x8 (none) F6 (by omega)  (by omega)) rfl
set_option maxRecDepth 4000 in
set_option maxHeartbeats 20000000 in
theorem m_end_L1 {E : Nat → Nat × (Nat → Int32)} {d : Nat} {Q : ez_Q} {h : ez_H} {n : Int32} {t : Int32} (S : zSh h) (M : mI h) (K : ∀ h2 (x : Int32), zF zY h h2 → mI h2 → Q (.inl (some (.int x))) h2) : ∀ N : Nat, (∀ (h2 : ez_H) (i : Int32) (l4 : Option Value) , zG (fun k => k = 0 ∨ k = 6) (fun q => q = 72 ∨ q = 74) h h2 → (0 ≤ i.toInt ∧ i.toInt ≤ 20 ∧ 0 ≤ (ez_I h2 71 6).toInt ∧ (ez_I h2 71 6).toInt ≤ 6000) → (2147483647 - i.toInt) < (N : Int) → pw E d 26 101 [some (.ref 71), some (.int n), some (.int t), some (.int i), l4] [] h2 Q) := by
  intro N
  induction N with
  | zero => exact fun h2 i l4  F hinv  hm => absurd hm (by have w_i := z_rng i; have gn := z_rng n; have gt := z_rng t; have M6 := M.1.1; have M7 := M.1.2.1; have M14 := M.1.2.2.1; have M15 := M.1.2.2.2; have MC := M.2; omega)
  | succ N ih =>
    refine fun h2 i l4  F hinv  hm => ?_
    · skip
      have w_i := z_rng i
      have gn := z_rng n
      have gt := z_rng t
      have M6 := M.1.1
      have M7 := M.1.2.1
      have M14 := M.1.2.2.1
      have M15 := M.1.2.2.2
      have MC := M.2
      have S2 := zG_sh F S
      apply ez_Wp_in
      show ez_gw _ _ _ _ _ _ (cz_26) _ _ _ _ _
      refine gw_skip _ ?_
      have r1 := z_rng (ez_I h2 71 0)
      have r2 := z_rng (ez_I h2 71 6)
      refine gw_ld rfl rfl ?_
      refine z_C (m := 20) rfl rfl (fun x3 ex3 => ?_)
      refine z_b2 (fun c4 => ?_) (fun c4 => ?_)
      · have c4 : x3.toInt ≤ i.toInt := c4
        refine gw_skip _ ?_
        refine gw_ld rfl rfl ?_
        refine z_gI2 (by decide) (zT S2 (by decide) rfl) (rfl) ?_
        refine z_ri ?_
        have t5 := congrArg Int32.toInt (zG_f F (k := 7) (by decide))
        have t6 := congrArg Int32.toInt (zG_f F (k := 14) (by decide))
        have t7 := congrArg Int32.toInt (zG_f F (k := 15) (by decide))
        exact K _ (ez_I h2 71 6) (zG_Y F (fun q hq => by first | omega | exact False.elim hq)) (mI_G M F (fun q hq => by first | omega | exact fun c => c) (by omega)) 
      · have c4 : ¬ (x3.toInt ≤ i.toInt) := c4
        refine gw_ld rfl rfl ?_
        refine z_gR (q := 74) (zT S2 (by decide) rfl) (zRf S2 (by decide) (by decide) rfl) (by decide) ?_
        refine gw_ld rfl rfl ?_
        refine z_C (m := 0) rfl rfl (fun x8 ex8 => ?_)
        refine z_bs (n := 20) (zT S2 (by decide) rfl) (zN S2 (by decide) rfl) (by omega) (fun h9 e10 => ?_)
        have S11 := zSh_set S2 e10
        have F12 := zG_setA F e10 (by decide) (by decide)
        have f13 : ez_I h9 71 0 = (ez_I h2 71 0) := (zI_ne e10 (by omega)).trans (rfl)
        have f14 : ez_I h9 71 6 = (ez_I h2 71 6) := (zI_ne e10 (by omega)).trans (rfl)
        refine z_inc rfl (by rw [show (1 : Int32).toInt = 1 from rfl]; omega) (fun x15 ex15 => ?_)
        rw [show (1 : Int32).toInt = 1 from rfl] at ex15
        show ez_gw _ _ _ _ _ _ _ _ [some (.ref 71), some (.int n), some (.int t), some (.int x15), l4] _ _ _
        refine z_go ?_
        have t16 := congrArg Int32.toInt (f13)
        have t17 := congrArg Int32.toInt (f14)
        exact ih h9 x15 (l4) F12 (by first | omega | (refine ⟨by omega, by omega, by omega, ?_⟩; have e1 : 0 ≤ n.toInt * (t.toInt - i.toInt) := Int.mul_nonneg (by omega) (by omega); omega))  (by omega)
set_option maxRecDepth 4000 in
set_option maxHeartbeats 20000000 in
theorem m_end_L0 {E : Nat → Nat × (Nat → Int32)} {d : Nat} {Q : ez_Q} {h : ez_H} {n : Int32} {t : Int32} (S : zSh h) (M : mI h) (K : ∀ h2 (x : Int32), zF zY h h2 → mI h2 → Q (.inl (some (.int x))) h2) : ∀ N : Nat, (∀ (h2 : ez_H) (i : Int32) (l4 : Option Value) , zG (fun k => k = 0 ∨ k = 6) (fun q => q = 72 ∨ q = 74) h h2 → (0 ≤ n.toInt ∧ n.toInt ≤ 20 ∧ 1 ≤ t.toInt ∧ t.toInt ≤ 100 ∧ 0 ≤ i.toInt ∧ i.toInt ≤ t.toInt ∧ 0 ≤ (ez_I h2 71 6).toInt ∧ (ez_I h2 71 6).toInt + n.toInt * (t.toInt - i.toInt) ≤ 6000) → ((2147483647 - i.toInt) * 100) < (N : Int) → pw E d 26 44 [some (.ref 71), some (.int n), some (.int t), some (.int i), l4] [] h2 Q) ∧ (∀ (h2 : ez_H) (i : Int32) (j : Int32) , zG (fun k => k = 0 ∨ k = 6) (fun q => q = 72 ∨ q = 74) h h2 → (0 ≤ n.toInt ∧ n.toInt ≤ 20 ∧ 1 ≤ t.toInt ∧ t.toInt ≤ 100 ∧ 0 ≤ i.toInt ∧ i.toInt < t.toInt ∧ 0 ≤ (ez_I h2 71 6).toInt ∧ (ez_I h2 71 6).toInt + n.toInt * (t.toInt - i.toInt) ≤ 6000 ∧ 0 ≤ j.toInt ∧ j.toInt ≤ n.toInt) → ((2147483647 - i.toInt) * 100 - 50 + (20 - j.toInt)) < (N : Int) → pw E d 26 52 [some (.ref 71), some (.int n), some (.int t), some (.int i), some (.int j)] [] h2 Q) := by
  intro N
  induction N with
  | zero => exact ⟨fun h2 i l4  F hinv  hm => absurd hm (by have w_i := z_rng i; have gn := z_rng n; have gt := z_rng t; have M6 := M.1.1; have M7 := M.1.2.1; have M14 := M.1.2.2.1; have M15 := M.1.2.2.2; have MC := M.2; omega), fun h2 i j  F hinv  hm => absurd hm (by have w_i := z_rng i; have w_j := z_rng j; have gn := z_rng n; have gt := z_rng t; have M6 := M.1.1; have M7 := M.1.2.1; have M14 := M.1.2.2.1; have M15 := M.1.2.2.2; have MC := M.2; omega)⟩
  | succ N ih =>
    refine ⟨fun h2 i l4  F hinv  hm => ?_, fun h2 i j  F hinv  hm => ?_⟩
    · skip
      have w_i := z_rng i
      have gn := z_rng n
      have gt := z_rng t
      have M6 := M.1.1
      have M7 := M.1.2.1
      have M14 := M.1.2.2.1
      have M15 := M.1.2.2.2
      have MC := M.2
      have S2 := zG_sh F S
      apply ez_Wp_in
      show ez_gw _ _ _ _ _ _ (cz_26) _ _ _ _ _
      refine gw_skip _ ?_
      have r1 := z_rng (ez_I h2 71 0)
      have r2 := z_rng (ez_I h2 71 6)
      refine gw_ld rfl rfl ?_
      refine gw_ld rfl rfl ?_
      refine z_b2 (fun c3 => ?_) (fun c3 => ?_)
      · have c3 : t.toInt ≤ i.toInt := c3
        refine gw_skip _ ?_
        refine z_C (m := 0) rfl rfl (fun x4 ex4 => ?_)
        refine gw_st rfl rfl rfl ?_
        show ez_gw _ _ _ _ _ _ _ _ [some (.ref 71), some (.int n), some (.int t), some (.int x4), l4] _ _ _
        exact ez_Wp_at ((m_end_L1 (n := n) (t := t) S M K (((2147483647 - x4.toInt)).toNat + 1)) h2 x4 (l4) F (by first | omega | (refine ⟨by omega, by omega, by omega, ?_⟩; have e1 : 0 ≤ n.toInt * (t.toInt - i.toInt) := Int.mul_nonneg (by omega) (by omega); omega))  (by omega)) rfl
      · have c3 : ¬ (t.toInt ≤ i.toInt) := c3
        refine z_C (m := 0) rfl rfl (fun x5 ex5 => ?_)
        refine gw_st rfl rfl rfl ?_
        show ez_gw _ _ _ _ _ _ _ _ [some (.ref 71), some (.int n), some (.int t), some (.int i), some (.int x5)] _ _ _
        exact ez_Wp_at (ih.2 h2 i x5 F (by omega)  (by omega)) rfl
    · skip
      have w_i := z_rng i
      have w_j := z_rng j
      have gn := z_rng n
      have gt := z_rng t
      have M6 := M.1.1
      have M7 := M.1.2.1
      have M14 := M.1.2.2.1
      have M15 := M.1.2.2.2
      have MC := M.2
      have S2 := zG_sh F S
      have e0 : n.toInt ≤ n.toInt * (t.toInt - i.toInt) := by
        have := Int.mul_le_mul_of_nonneg_left (show 1 ≤ t.toInt - i.toInt by omega) hinv.1
        omega
      apply ez_Wp_in
      show ez_gw _ _ _ _ _ _ (cz_26) _ _ _ _ _
      refine gw_skip _ ?_
      have r6 := z_rng (ez_I h2 71 0)
      have r7 := z_rng (ez_I h2 71 6)
      refine gw_ld rfl rfl ?_
      refine gw_ld rfl rfl ?_
      refine z_b2 (fun c8 => ?_) (fun c8 => ?_)
      · have c8 : n.toInt ≤ j.toInt := c8
        refine gw_skip _ ?_
        refine gw_ld rfl rfl ?_
        refine gw_op rfl ?_
        refine z_gI2 (by decide) (zT S2 (by decide) rfl) (rfl) ?_
        refine gw_ld rfl rfl ?_
        refine z_add (by omega) (fun x9 ex9 => ?_)
        refine z_pI (zT S2 (by decide) rfl) (fun h10 e11 => ?_)
        have S12 := zSh_set S2 e11
        have F13 := zG_setF F e11 (by decide)
        have f14 : ez_I h10 71 0 = (ez_I h2 71 0) := (zI_ne e11 (by decide)).trans (rfl)
        have f15 : ez_I h10 71 6 = x9 := zI_eq e11
        refine z_inc rfl (by rw [show (1 : Int32).toInt = 1 from rfl]; omega) (fun x16 ex16 => ?_)
        rw [show (1 : Int32).toInt = 1 from rfl] at ex16
        show ez_gw _ _ _ _ _ _ _ _ [some (.ref 71), some (.int n), some (.int t), some (.int x16), some (.int j)] _ _ _
        refine z_go ?_
        have t17 := congrArg Int32.toInt (f14)
        have t18 := congrArg Int32.toInt (f15)
        exact ih.1 h10 x16 (some (.int j)) F13 (by first | omega | (refine ⟨by omega, by omega, by omega, by omega, by omega, by omega, by omega, ?_⟩; have e1 : n.toInt * (t.toInt - (x16).toInt) = n.toInt * (t.toInt - i.toInt) - n.toInt := by { rw [show t.toInt - (x16).toInt = (t.toInt - i.toInt) - 1 from by omega, Int.mul_sub, Int.mul_one] }; omega) | (refine ⟨by omega, by omega, by omega, by omega, by omega, by omega, by omega, ?_⟩; rw [show t.toInt - (x16).toInt = t.toInt from by omega]; omega))  (by omega)
      · have c8 : ¬ (n.toInt ≤ j.toInt) := c8
        refine gw_ld rfl rfl ?_
        refine z_gR (q := 72) (zT S2 (by decide) rfl) (zRf S2 (by decide) (by decide) rfl) (by decide) ?_
        refine gw_ld rfl rfl ?_
        refine z_gI2 (by decide) (zT S2 (by decide) rfl) (rfl) ?_
        refine gw_ld rfl rfl ?_
        refine z_add (by omega) (fun x19 ex19 => ?_)
        refine gw_ld rfl rfl ?_
        refine z_gR (q := 74) (zT S2 (by decide) rfl) (zRf S2 (by decide) (by decide) rfl) (by decide) ?_
        refine gw_ld rfl rfl ?_
        refine z_ba (n := 20) (zT S2 (by decide) rfl) (zN S2 (by decide) rfl) (by omega) ?_
        generalize ex20 : ez_I h2 74 j.toInt.toNat = x20
        have rx20 := z_rng x20
        refine z_bs (n := 6000) (zT S2 (by decide) rfl) (zN S2 (by decide) rfl) (by omega) (fun h21 e22 => ?_)
        have S23 := zSh_set S2 e22
        have F24 := zG_setA F e22 (by decide) (by decide)
        have f25 : ez_I h21 71 0 = (ez_I h2 71 0) := (zI_ne e22 (by omega)).trans (rfl)
        have f26 : ez_I h21 71 6 = (ez_I h2 71 6) := (zI_ne e22 (by omega)).trans (rfl)
        refine z_inc rfl (by rw [show (1 : Int32).toInt = 1 from rfl]; omega) (fun x27 ex27 => ?_)
        rw [show (1 : Int32).toInt = 1 from rfl] at ex27
        show ez_gw _ _ _ _ _ _ _ _ [some (.ref 71), some (.int n), some (.int t), some (.int i), some (.int x27)] _ _ _
        refine z_go ?_
        have t28 := congrArg Int32.toInt (f25)
        have t29 := congrArg Int32.toInt (f26)
        exact ih.2 h21 i x27 F24 (by omega)  (by omega)
set_option maxRecDepth 4000 in
set_option maxHeartbeats 20000000 in
theorem m_end {E : Nat → Nat × (Nat → Int32)} {d : Nat} {Q : ez_Q} {h : ez_H} {n : Int32} {t : Int32} (S : zSh h) (M : mI h) (K : ∀ h2 (x : Int32), zF zY h h2 → mI h2 → Q (.inl (some (.int x))) h2) : pw E d 26 0 [some (.ref 71), some (.int n), some (.int t), none, none] [] h Q := by
  have gn := z_rng n
  have gt := z_rng t
  have M6 := M.1.1
  have M7 := M.1.2.1
  have M14 := M.1.2.2.1
  have M15 := M.1.2.2.2
  have MC := M.2
  have F := zG_refl (fun k => k = 0 ∨ k = 6) (fun q => q = 72 ∨ q = 74) h
  apply ez_Wp_in
  show ez_gw _ _ _ _ _ _ (cz_26) _ _ _ _ _
  refine gw_skip _ ?_
  have r1 := z_rng (ez_I h 71 0)
  have r2 := z_rng (ez_I h 71 6)
  refine gw_ld rfl rfl ?_
  refine z_C (m := 0) rfl rfl (fun x3 ex3 => ?_)
  refine z_pI (zT S (by decide) rfl) (fun h4 e5 => ?_)
  have S6 := zSh_set S e5
  have F7 := zG_setF F e5 (by decide)
  have f8 : ez_I h4 71 0 = x3 := zI_eq e5
  have f9 : ez_I h4 71 6 = (ez_I h 71 6) := (zI_ne e5 (by decide)).trans (rfl)
  refine gw_ld rfl rfl ?_
  refine z_b1 (fun c10 => ?_) (fun c10 => ?_)
  · have c10 : n.toInt < 0 := c10
    refine gw_skip _ ?_
    refine z_C (m := -1) rfl rfl (fun x11 ex11 => ?_)
    refine z_ri ?_
    have t12 := congrArg Int32.toInt (f8)
    have t13 := congrArg Int32.toInt (f9)
    have t14 := congrArg Int32.toInt (zG_f F7 (k := 7) (by decide))
    have t15 := congrArg Int32.toInt (zG_f F7 (k := 14) (by decide))
    have t16 := congrArg Int32.toInt (zG_f F7 (k := 15) (by decide))
    exact K _ x11 (zG_Y F7 (fun q hq => by first | omega | exact False.elim hq)) (mI_G M F7 (fun q hq => by first | omega | exact fun c => c) (by omega)) 
  · have c10 : ¬ (n.toInt < 0) := c10
    refine gw_ld rfl rfl ?_
    refine z_C (m := 20) rfl rfl (fun x17 ex17 => ?_)
    refine z_b2 (fun c18 => ?_) (fun c18 => ?_)
    · have c18 : x17.toInt < n.toInt := c18
      refine gw_skip _ ?_
      refine z_C (m := -1) rfl rfl (fun x19 ex19 => ?_)
      refine z_ri ?_
      have t20 := congrArg Int32.toInt (f8)
      have t21 := congrArg Int32.toInt (f9)
      have t22 := congrArg Int32.toInt (zG_f F7 (k := 7) (by decide))
      have t23 := congrArg Int32.toInt (zG_f F7 (k := 14) (by decide))
      have t24 := congrArg Int32.toInt (zG_f F7 (k := 15) (by decide))
      exact K _ x19 (zG_Y F7 (fun q hq => by first | omega | exact False.elim hq)) (mI_G M F7 (fun q hq => by first | omega | exact fun c => c) (by omega)) 
    · have c18 : ¬ (x17.toInt < n.toInt) := c18
      refine gw_ld rfl rfl ?_
      refine z_C (m := 1) rfl rfl (fun x25 ex25 => ?_)
      refine z_b2 (fun c26 => ?_) (fun c26 => ?_)
      · have c26 : t.toInt < x25.toInt := c26
        refine gw_skip _ ?_
        refine z_C (m := -1) rfl rfl (fun x27 ex27 => ?_)
        refine z_ri ?_
        have t28 := congrArg Int32.toInt (f8)
        have t29 := congrArg Int32.toInt (f9)
        have t30 := congrArg Int32.toInt (zG_f F7 (k := 7) (by decide))
        have t31 := congrArg Int32.toInt (zG_f F7 (k := 14) (by decide))
        have t32 := congrArg Int32.toInt (zG_f F7 (k := 15) (by decide))
        exact K _ x27 (zG_Y F7 (fun q hq => by first | omega | exact False.elim hq)) (mI_G M F7 (fun q hq => by first | omega | exact fun c => c) (by omega)) 
      · have c26 : ¬ (t.toInt < x25.toInt) := c26
        refine gw_ld rfl rfl ?_
        refine z_C (m := 100) rfl rfl (fun x33 ex33 => ?_)
        refine z_b2 (fun c34 => ?_) (fun c34 => ?_)
        · have c34 : x33.toInt < t.toInt := c34
          refine gw_skip _ ?_
          refine z_C (m := -1) rfl rfl (fun x35 ex35 => ?_)
          refine z_ri ?_
          have t36 := congrArg Int32.toInt (f8)
          have t37 := congrArg Int32.toInt (f9)
          have t38 := congrArg Int32.toInt (zG_f F7 (k := 7) (by decide))
          have t39 := congrArg Int32.toInt (zG_f F7 (k := 14) (by decide))
          have t40 := congrArg Int32.toInt (zG_f F7 (k := 15) (by decide))
          exact K _ x35 (zG_Y F7 (fun q hq => by first | omega | exact False.elim hq)) (mI_G M F7 (fun q hq => by first | omega | exact fun c => c) (by omega)) 
        · have c34 : ¬ (x33.toInt < t.toInt) := c34
          refine gw_ld rfl rfl ?_
          refine z_gI2 (by decide) (zT S6 (by decide) rfl) (f9) ?_
          refine gw_ld rfl rfl ?_
          refine gw_ld rfl rfl ?_
          refine z_mul (by
            have e2 : 0 ≤ n.toInt * t.toInt := Int.mul_nonneg (by omega) (by omega)
            have e3 : n.toInt * t.toInt ≤ 20 * 100 := Int.mul_le_mul (by omega) (by omega) (by omega) (by omega)
            omega) (fun x41 ex41 => ?_)
          refine z_add (by
            have e2 : 0 ≤ n.toInt * t.toInt := Int.mul_nonneg (by omega) (by omega)
            have e3 : n.toInt * t.toInt ≤ 20 * 100 := Int.mul_le_mul (by omega) (by omega) (by omega) (by omega)
            omega) (fun x42 ex42 => ?_)
          refine z_C (m := 6000) rfl rfl (fun x43 ex43 => ?_)
          refine z_b2 (fun c44 => ?_) (fun c44 => ?_)
          · have c44 : x42.toInt ≤ x43.toInt := c44
            refine gw_skip _ ?_
            refine z_C (m := 0) rfl rfl (fun x45 ex45 => ?_)
            refine gw_st rfl rfl rfl ?_
            show ez_gw _ _ _ _ _ _ _ _ [some (.ref 71), some (.int n), some (.int t), some (.int x45), none] _ _ _
            have t46 := congrArg Int32.toInt (f8)
            have t47 := congrArg Int32.toInt (f9)
            exact ez_Wp_at ((m_end_L0 (n := n) (t := t) S M K ((((2147483647 - x45.toInt) * 100)).toNat + 1)).1 h4 x45 (none) F7 (by first | omega | (refine ⟨by omega, by omega, by omega, by omega, by omega, by omega, by omega, ?_⟩; have e1 : n.toInt * (t.toInt - (x45).toInt) = n.toInt * (t.toInt - i.toInt) - n.toInt := by { rw [show t.toInt - (x45).toInt = (t.toInt - i.toInt) - 1 from by omega, Int.mul_sub, Int.mul_one] }; omega) | (refine ⟨by omega, by omega, by omega, by omega, by omega, by omega, by omega, ?_⟩; rw [show t.toInt - (x45).toInt = t.toInt from by omega]; omega))  (by omega)) rfl
          · have c44 : ¬ (x42.toInt ≤ x43.toInt) := c44
            refine z_C (m := -1) rfl rfl (fun x48 ex48 => ?_)
            refine z_ri ?_
            have t49 := congrArg Int32.toInt (f8)
            have t50 := congrArg Int32.toInt (f9)
            have t51 := congrArg Int32.toInt (zG_f F7 (k := 7) (by decide))
            have t52 := congrArg Int32.toInt (zG_f F7 (k := 14) (by decide))
            have t53 := congrArg Int32.toInt (zG_f F7 (k := 15) (by decide))
            exact K _ x48 (zG_Y F7 (fun q hq => by first | omega | exact False.elim hq)) (mI_G M F7 (fun q hq => by first | omega | exact fun c => c) (by omega)) 
set_option maxRecDepth 4000 in
set_option maxHeartbeats 20000000 in
theorem m_cut {E : Nat → Nat × (Nat → Int32)} {d : Nat} {Q : ez_Q} {h : ez_H} {n : Int32} (S : zSh h) (M : mI h) (K : ∀ h2 (x : Int32), zF zY h h2 → mI h2 → Q (.inl (some (.int x))) h2) : pw E d 27 0 [some (.ref 71), some (.int n)] [] h Q := by
  have gn := z_rng n
  have M6 := M.1.1
  have M7 := M.1.2.1
  have M14 := M.1.2.2.1
  have M15 := M.1.2.2.2
  have MC := M.2
  have F := zG_refl (fun k => k = 0 ∨ k = 6) (fun _ => False) h
  apply ez_Wp_in
  show ez_gw _ _ _ _ _ _ (cz_27) _ _ _ _ _
  refine gw_skip _ ?_
  have r1 := z_rng (ez_I h 71 0)
  have r2 := z_rng (ez_I h 71 6)
  refine gw_ld rfl rfl ?_
  refine z_C (m := 0) rfl rfl (fun x3 ex3 => ?_)
  refine z_pI (zT S (by decide) rfl) (fun h4 e5 => ?_)
  have S6 := zSh_set S e5
  have F7 := zG_setF F e5 (by decide)
  have f8 : ez_I h4 71 0 = x3 := zI_eq e5
  have f9 : ez_I h4 71 6 = (ez_I h 71 6) := (zI_ne e5 (by decide)).trans (rfl)
  refine gw_ld rfl rfl ?_
  refine z_b1 (fun c10 => ?_) (fun c10 => ?_)
  · have c10 : n.toInt < 0 := c10
    refine gw_skip _ ?_
    refine z_C (m := 0) rfl rfl (fun x11 ex11 => ?_)
    refine z_rz (by omega) ?_
    have t12 := congrArg Int32.toInt (f8)
    have t13 := congrArg Int32.toInt (f9)
    have t14 := congrArg Int32.toInt (zG_f F7 (k := 7) (by decide))
    have t15 := congrArg Int32.toInt (zG_f F7 (k := 14) (by decide))
    have t16 := congrArg Int32.toInt (zG_f F7 (k := 15) (by decide))
    exact K _ x11 (zG_Y F7 (fun q hq => by first | omega | exact False.elim hq)) (mI_G M F7 (fun q hq => by first | omega | exact fun c => c) (by omega)) 
  · have c10 : ¬ (n.toInt < 0) := c10
    refine gw_ld rfl rfl ?_
    refine gw_ld rfl rfl ?_
    refine z_gI2 (by decide) (zT S6 (by decide) rfl) (f9) ?_
    refine z_b2 (fun c17 => ?_) (fun c17 => ?_)
    · have c17 : n.toInt ≤ ((ez_I h 71 6)).toInt := c17
      refine gw_skip _ ?_
      refine gw_ld rfl rfl ?_
      refine gw_ld rfl rfl ?_
      refine z_pI (zT S6 (by decide) rfl) (fun h18 e19 => ?_)
      have S20 := zSh_set S6 e19
      have F21 := zG_setF F7 e19 (by decide)
      have f22 : ez_I h18 71 0 = x3 := (zI_ne e19 (by decide)).trans (f8)
      have f23 : ez_I h18 71 6 = n := zI_eq e19
      refine z_C (m := 1) rfl rfl (fun x24 ex24 => ?_)
      refine z_rz (by omega) ?_
      have t25 := congrArg Int32.toInt (f22)
      have t26 := congrArg Int32.toInt (f23)
      have t27 := congrArg Int32.toInt (zG_f F21 (k := 7) (by decide))
      have t28 := congrArg Int32.toInt (zG_f F21 (k := 14) (by decide))
      have t29 := congrArg Int32.toInt (zG_f F21 (k := 15) (by decide))
      exact K _ x24 (zG_Y F21 (fun q hq => by first | omega | exact False.elim hq)) (mI_G M F21 (fun q hq => by first | omega | exact fun c => c) (by omega)) 
    · have c17 : ¬ (n.toInt ≤ ((ez_I h 71 6)).toInt) := c17
      refine z_C (m := 0) rfl rfl (fun x30 ex30 => ?_)
      refine z_rz (by omega) ?_
      have t31 := congrArg Int32.toInt (f8)
      have t32 := congrArg Int32.toInt (f9)
      have t33 := congrArg Int32.toInt (zG_f F7 (k := 7) (by decide))
      have t34 := congrArg Int32.toInt (zG_f F7 (k := 14) (by decide))
      have t35 := congrArg Int32.toInt (zG_f F7 (k := 15) (by decide))
      exact K _ x30 (zG_Y F7 (fun q hq => by first | omega | exact False.elim hq)) (mI_G M F7 (fun q hq => by first | omega | exact fun c => c) (by omega)) 
set_option maxRecDepth 4000 in
set_option maxHeartbeats 20000000 in
theorem m_flip {E : Nat → Nat × (Nat → Int32)} {d : Nat} {Q : ez_Q} {h : ez_H} {n : Int32} {b : Int32} (S : zSh h) (M : mI h) (K : ∀ h2 (x : Int32), zF zY h h2 → mI h2 → Q (.inl (some (.int x))) h2) : pw E d 28 0 [some (.ref 71), some (.int n), some (.int b)] [] h Q := by
  have gn := z_rng n
  have gb := z_rng b
  have M6 := M.1.1
  have M7 := M.1.2.1
  have M14 := M.1.2.2.1
  have M15 := M.1.2.2.2
  have MC := M.2
  have F := zG_refl (fun k => k = 0) (fun q => q = 72) h
  apply ez_Wp_in
  show ez_gw _ _ _ _ _ _ (cz_28) _ _ _ _ _
  refine gw_skip _ ?_
  have r1 := z_rng (ez_I h 71 0)
  refine gw_ld rfl rfl ?_
  refine z_C (m := 0) rfl rfl (fun x2 ex2 => ?_)
  refine z_pI (zT S (by decide) rfl) (fun h3 e4 => ?_)
  have S5 := zSh_set S e4
  have F6 := zG_setF F e4 (by decide)
  have f7 : ez_I h3 71 0 = x2 := zI_eq e4
  refine gw_ld rfl rfl ?_
  refine z_b1 (fun c8 => ?_) (fun c8 => ?_)
  · have c8 : n.toInt < 0 := c8
    refine gw_skip _ ?_
    refine z_C (m := 0) rfl rfl (fun x9 ex9 => ?_)
    refine z_rz (by omega) ?_
    have t10 := congrArg Int32.toInt (f7)
    have t11 := congrArg Int32.toInt (zG_f F6 (k := 6) (by decide))
    have t12 := congrArg Int32.toInt (zG_f F6 (k := 7) (by decide))
    have t13 := congrArg Int32.toInt (zG_f F6 (k := 14) (by decide))
    have t14 := congrArg Int32.toInt (zG_f F6 (k := 15) (by decide))
    exact K _ x9 (zG_Y F6 (fun q hq => by first | omega | exact False.elim hq)) (mI_G M F6 (fun q hq => by first | omega | exact fun c => c) (by omega)) 
  · have c8 : ¬ (n.toInt < 0) := c8
    refine gw_ld rfl rfl ?_
    refine gw_ld rfl rfl ?_
    have r15 := z_rng (ez_I h 71 6)
    refine z_gI2 (by decide) (zT S5 (by decide) rfl) (zG_f F6 (by decide)) ?_
    refine z_b2 (fun c16 => ?_) (fun c16 => ?_)
    · have c16 : ((ez_I h 71 6)).toInt ≤ n.toInt := c16
      refine gw_skip _ ?_
      refine z_C (m := 0) rfl rfl (fun x17 ex17 => ?_)
      refine z_rz (by omega) ?_
      have t18 := congrArg Int32.toInt (f7)
      have t19 := congrArg Int32.toInt (zG_f F6 (k := 6) (by decide))
      have t20 := congrArg Int32.toInt (zG_f F6 (k := 7) (by decide))
      have t21 := congrArg Int32.toInt (zG_f F6 (k := 14) (by decide))
      have t22 := congrArg Int32.toInt (zG_f F6 (k := 15) (by decide))
      exact K _ x17 (zG_Y F6 (fun q hq => by first | omega | exact False.elim hq)) (mI_G M F6 (fun q hq => by first | omega | exact fun c => c) (by omega)) 
    · have c16 : ¬ (((ez_I h 71 6)).toInt ≤ n.toInt) := c16
      refine gw_ld rfl rfl ?_
      refine z_b1 (fun c23 => ?_) (fun c23 => ?_)
      · have c23 : b.toInt < 0 := c23
        refine gw_skip _ ?_
        refine z_C (m := 0) rfl rfl (fun x24 ex24 => ?_)
        refine z_rz (by omega) ?_
        have t25 := congrArg Int32.toInt (f7)
        have t26 := congrArg Int32.toInt (zG_f F6 (k := 6) (by decide))
        have t27 := congrArg Int32.toInt (zG_f F6 (k := 7) (by decide))
        have t28 := congrArg Int32.toInt (zG_f F6 (k := 14) (by decide))
        have t29 := congrArg Int32.toInt (zG_f F6 (k := 15) (by decide))
        exact K _ x24 (zG_Y F6 (fun q hq => by first | omega | exact False.elim hq)) (mI_G M F6 (fun q hq => by first | omega | exact fun c => c) (by omega)) 
      · have c23 : ¬ (b.toInt < 0) := c23
        refine gw_ld rfl rfl ?_
        refine z_C (m := 7) rfl rfl (fun x30 ex30 => ?_)
        refine z_b2 (fun c31 => ?_) (fun c31 => ?_)
        · have c31 : b.toInt ≤ x30.toInt := c31
          refine gw_skip _ ?_
          refine gw_ld rfl rfl ?_
          refine z_gR (q := 72) (zT S5 (by decide) rfl) (zRf S5 (by decide) (by decide) rfl) (by decide) ?_
          refine gw_ld rfl rfl ?_
          refine gw_ld rfl rfl ?_
          refine z_gR (q := 72) (zT S5 (by decide) rfl) (zRf S5 (by decide) (by decide) rfl) (by decide) ?_
          refine gw_ld rfl rfl ?_
          refine z_ba (n := 6000) (zT S5 (by decide) rfl) (zN S5 (by decide) rfl) (by omega) ?_
          generalize ex32 : ez_I h3 72 n.toInt.toNat = x32
          have rx32 := z_rng x32
          refine z_C (m := 1) rfl rfl (fun x33 ex33 => ?_)
          refine gw_ld rfl rfl ?_
          refine z_2 rfl (fun x34 ex34 => ?_)
          have rx34 := z_rng x34
          refine z_2 rfl (fun x35 ex35 => ?_)
          have rx35 := z_rng x35
          refine z_1 rfl (fun x36 ex36 => ?_)
          have rx36 := z_rng x36
          refine z_bs (n := 6000) (zT S5 (by decide) rfl) (zN S5 (by decide) rfl) (by omega) (fun h37 e38 => ?_)
          have S39 := zSh_set S5 e38
          have F40 := zG_setA F6 e38 (by decide) (by decide)
          have f41 : ez_I h37 71 0 = x2 := (zI_ne e38 (by omega)).trans (f7)
          refine z_C (m := 1) rfl rfl (fun x42 ex42 => ?_)
          refine z_rz (by omega) ?_
          have t43 := congrArg Int32.toInt (f41)
          have t44 := congrArg Int32.toInt (zG_f F40 (k := 6) (by decide))
          have t45 := congrArg Int32.toInt (zG_f F40 (k := 7) (by decide))
          have t46 := congrArg Int32.toInt (zG_f F40 (k := 14) (by decide))
          have t47 := congrArg Int32.toInt (zG_f F40 (k := 15) (by decide))
          exact K _ x42 (zG_Y F40 (fun q hq => by first | omega | exact False.elim hq)) (mI_G M F40 (fun q hq => by first | omega | exact fun c => c) (by omega)) 
        · have c31 : ¬ (b.toInt ≤ x30.toInt) := c31
          refine z_C (m := 0) rfl rfl (fun x48 ex48 => ?_)
          refine z_rz (by omega) ?_
          have t49 := congrArg Int32.toInt (f7)
          have t50 := congrArg Int32.toInt (zG_f F6 (k := 6) (by decide))
          have t51 := congrArg Int32.toInt (zG_f F6 (k := 7) (by decide))
          have t52 := congrArg Int32.toInt (zG_f F6 (k := 14) (by decide))
          have t53 := congrArg Int32.toInt (zG_f F6 (k := 15) (by decide))
          exact K _ x48 (zG_Y F6 (fun q hq => by first | omega | exact False.elim hq)) (mI_G M F6 (fun q hq => by first | omega | exact fun c => c) (by omega)) 
set_option maxRecDepth 4000 in
set_option maxHeartbeats 20000000 in
theorem m_take_L0 {E : Nat → Nat × (Nat → Int32)} {d : Nat} {Q : ez_Q} {h : ez_H}  (S : zSh h) (M : mI h) (K : ∀ h2 (x : Int32), zF zY h h2 → mI h2 → Q (.inl (some (.int x))) h2) : ∀ N : Nat, (∀ (h2 : ez_H) (i : Int32) , zG (fun k => k = 0 ∨ k = 6) (fun q => q = 72) h h2 → (0 ≤ i.toInt ∧ (ez_I h 71 7).toInt ≤ 6000 ∧ 0 ≤ (ez_I h2 71 6).toInt ∧ (ez_I h2 71 6).toInt ≤ 6000) → (2147483647 - i.toInt) < (N : Int) → pw E d 29 30 [some (.ref 71), some (.int i)] [] h2 Q) := by
  intro N
  induction N with
  | zero => exact fun h2 i  F hinv  hm => absurd hm (by have w_i := z_rng i; have M6 := M.1.1; have M7 := M.1.2.1; have M14 := M.1.2.2.1; have M15 := M.1.2.2.2; have MC := M.2; omega)
  | succ N ih =>
    refine fun h2 i  F hinv  hm => ?_
    · skip
      have w_i := z_rng i
      have M6 := M.1.1
      have M7 := M.1.2.1
      have M14 := M.1.2.2.1
      have M15 := M.1.2.2.2
      have MC := M.2
      have S2 := zG_sh F S
      apply ez_Wp_in
      show ez_gw _ _ _ _ _ _ (cz_29) _ _ _ _ _
      refine gw_skip _ ?_
      have r1 := z_rng (ez_I h2 71 0)
      have r2 := z_rng (ez_I h2 71 6)
      refine gw_ld rfl rfl ?_
      refine gw_ld rfl rfl ?_
      have r3 := z_rng (ez_I h 71 7)
      refine z_gI2 (by decide) (zT S2 (by decide) rfl) (zG_f F (by decide)) ?_
      refine z_b2 (fun c4 => ?_) (fun c4 => ?_)
      · have c4 : ((ez_I h 71 7)).toInt ≤ i.toInt := c4
        refine gw_skip _ ?_
        refine gw_ld rfl rfl ?_
        refine gw_ld rfl rfl ?_
        refine z_gI2 (by decide) (zT S2 (by decide) rfl) (zG_f F (by decide)) ?_
        refine z_pI (zT S2 (by decide) rfl) (fun h5 e6 => ?_)
        have S7 := zSh_set S2 e6
        have F8 := zG_setF F e6 (by decide)
        have f9 : ez_I h5 71 0 = (ez_I h2 71 0) := (zI_ne e6 (by decide)).trans (rfl)
        have f10 : ez_I h5 71 6 = (ez_I h 71 7) := zI_eq e6
        refine gw_ld rfl rfl ?_
        refine z_gI2 (by decide) (zT S7 (by decide) rfl) (f10) ?_
        refine z_ri ?_
        have t11 := congrArg Int32.toInt (f9)
        have t12 := congrArg Int32.toInt (f10)
        have t13 := congrArg Int32.toInt (zG_f F8 (k := 7) (by decide))
        have t14 := congrArg Int32.toInt (zG_f F8 (k := 14) (by decide))
        have t15 := congrArg Int32.toInt (zG_f F8 (k := 15) (by decide))
        exact K _ (ez_I h 71 7) (zG_Y F8 (fun q hq => by first | omega | exact False.elim hq)) (mI_G M F8 (fun q hq => by first | omega | exact fun c => c) (by omega)) 
      · have c4 : ¬ (((ez_I h 71 7)).toInt ≤ i.toInt) := c4
        refine gw_ld rfl rfl ?_
        refine z_gR (q := 72) (zT S2 (by decide) rfl) (zRf S2 (by decide) (by decide) rfl) (by decide) ?_
        refine gw_ld rfl rfl ?_
        refine gw_ld rfl rfl ?_
        refine z_gR (q := 73) (zT S2 (by decide) rfl) (zRf S2 (by decide) (by decide) rfl) (by decide) ?_
        refine gw_ld rfl rfl ?_
        refine z_baV (n := 6200) (zT S2 (by decide) rfl) (zN S2 (by decide) rfl) (by omega) (zG_a F (by decide) (by decide)) ?_
        generalize ex16 : ez_I h 73 i.toInt.toNat = x16
        have rx16 := z_rng x16
        refine z_bs (n := 6000) (zT S2 (by decide) rfl) (zN S2 (by decide) rfl) (by omega) (fun h17 e18 => ?_)
        have S19 := zSh_set S2 e18
        have F20 := zG_setA F e18 (by decide) (by decide)
        have f21 : ez_I h17 71 0 = (ez_I h2 71 0) := (zI_ne e18 (by omega)).trans (rfl)
        have f22 : ez_I h17 71 6 = (ez_I h2 71 6) := (zI_ne e18 (by omega)).trans (rfl)
        refine z_inc rfl (by rw [show (1 : Int32).toInt = 1 from rfl]; omega) (fun x23 ex23 => ?_)
        rw [show (1 : Int32).toInt = 1 from rfl] at ex23
        show ez_gw _ _ _ _ _ _ _ _ [some (.ref 71), some (.int x23)] _ _ _
        refine z_go ?_
        have t24 := congrArg Int32.toInt (f21)
        have t25 := congrArg Int32.toInt (f22)
        exact ih h17 x23 F20 (by omega)  (by omega)
set_option maxRecDepth 4000 in
set_option maxHeartbeats 20000000 in
theorem m_take {E : Nat → Nat × (Nat → Int32)} {d : Nat} {Q : ez_Q} {h : ez_H}  (S : zSh h) (M : mI h) (K : ∀ h2 (x : Int32), zF zY h h2 → mI h2 → Q (.inl (some (.int x))) h2) : pw E d 29 0 [some (.ref 71), none] [] h Q := by
  have M6 := M.1.1
  have M7 := M.1.2.1
  have M14 := M.1.2.2.1
  have M15 := M.1.2.2.2
  have MC := M.2
  have F := zG_refl (fun k => k = 0 ∨ k = 6) (fun q => q = 72) h
  apply ez_Wp_in
  show ez_gw _ _ _ _ _ _ (cz_29) _ _ _ _ _
  refine gw_skip _ ?_
  have r1 := z_rng (ez_I h 71 0)
  have r2 := z_rng (ez_I h 71 6)
  refine gw_ld rfl rfl ?_
  refine gw_ld rfl rfl ?_
  have r3 := z_rng (ez_I h 71 7)
  refine z_gI2 (by decide) (zT S (by decide) rfl) (zG_f F (by decide)) ?_
  refine z_C (m := 6000) rfl rfl (fun x4 ex4 => ?_)
  refine z_b2 (fun c5 => ?_) (fun c5 => ?_)
  · have c5 : ((ez_I h 71 7)).toInt ≤ x4.toInt := c5
    refine gw_skip _ ?_
    refine z_C (m := 0) rfl rfl (fun x6 ex6 => ?_)
    refine z_pI (zT S (by decide) rfl) (fun h7 e8 => ?_)
    have S9 := zSh_set S e8
    have F10 := zG_setF F e8 (by decide)
    have f11 : ez_I h7 71 0 = x6 := zI_eq e8
    have f12 : ez_I h7 71 6 = (ez_I h 71 6) := (zI_ne e8 (by decide)).trans (rfl)
    refine gw_ld rfl rfl ?_
    refine z_gI2 (by decide) (zT S9 (by decide) rfl) (f11) ?_
    refine z_b1 (fun c13 => ?_) (fun c13 => ?_)
    · have c13 : x6.toInt ≤ 0 := c13
      refine gw_skip _ ?_
      refine z_C (m := 0) rfl rfl (fun x14 ex14 => ?_)
      refine gw_st rfl rfl rfl ?_
      show ez_gw _ _ _ _ _ _ _ _ [some (.ref 71), some (.int x14)] _ _ _
      have t15 := congrArg Int32.toInt (f11)
      have t16 := congrArg Int32.toInt (f12)
      exact ez_Wp_at ((m_take_L0  S M K (((2147483647 - x14.toInt)).toNat + 1)) h7 x14 F10 (by omega)  (by omega)) rfl
    · have c13 : ¬ (x6.toInt ≤ 0) := c13
      exfalso; omega
  · have c5 : ¬ (((ez_I h 71 7)).toInt ≤ x4.toInt) := c5
    refine z_C (m := 1) rfl rfl (fun x17 ex17 => ?_)
    refine z_go ?_
    refine gw_skip _ ?_
    refine z_pI (zT S (by decide) rfl) (fun h18 e19 => ?_)
    have S20 := zSh_set S e19
    have F21 := zG_setF F e19 (by decide)
    have f22 : ez_I h18 71 0 = x17 := zI_eq e19
    have f23 : ez_I h18 71 6 = (ez_I h 71 6) := (zI_ne e19 (by decide)).trans (rfl)
    refine gw_ld rfl rfl ?_
    refine z_gI2 (by decide) (zT S20 (by decide) rfl) (f22) ?_
    refine z_b1 (fun c24 => ?_) (fun c24 => ?_)
    · have c24 : x17.toInt ≤ 0 := c24
      exfalso; omega
    · have c24 : ¬ (x17.toInt ≤ 0) := c24
      refine z_C (m := 0) rfl rfl (fun x25 ex25 => ?_)
      refine z_ri ?_
      have t26 := congrArg Int32.toInt (f22)
      have t27 := congrArg Int32.toInt (f23)
      have t28 := congrArg Int32.toInt (zG_f F21 (k := 7) (by decide))
      have t29 := congrArg Int32.toInt (zG_f F21 (k := 14) (by decide))
      have t30 := congrArg Int32.toInt (zG_f F21 (k := 15) (by decide))
      exact K _ x25 (zG_Y F21 (fun q hq => by first | omega | exact False.elim hq)) (mI_G M F21 (fun q hq => by first | omega | exact fun c => c) (by omega)) 
set_option maxRecDepth 4000 in
set_option maxHeartbeats 20000000 in
theorem m_crc_L0 {E : Nat → Nat × (Nat → Int32)} {d : Nat} {Q : ez_Q} {h : ez_H}  (S : zSh h) (M : mI h) (K : ∀ h2 (x : Int32), zF zY h h2 → mI h2 → Q (.inl (some (.int x))) h2) : ∀ N : Nat, (∀ (h2 : ez_H) (x : Int32) (i : Int32) (l3 : Option Value) , zG (fun k => k = 0) (fun _ => False) h h2 → (0 ≤ i.toInt) → ((2147483647 - i.toInt) * 100) < (N : Int) → pw E d 30 9 [some (.ref 71), some (.int x), some (.int i), l3] [] h2 Q) ∧ (∀ (h2 : ez_H) (x : Int32) (i : Int32) (j : Int32) , zG (fun k => k = 0) (fun _ => False) h h2 → (0 ≤ i.toInt ∧ i.toInt < (ez_I h 71 6).toInt ∧ 0 ≤ j.toInt ∧ j.toInt ≤ 8) → ((2147483647 - i.toInt) * 100 - 50 + (8 - j.toInt)) < (N : Int) → pw E d 30 32 [some (.ref 71), some (.int x), some (.int i), some (.int j)] [] h2 Q) := by
  intro N
  induction N with
  | zero => exact ⟨fun h2 x i l3  F hinv  hm => absurd hm (by have w_x := z_rng x; have w_i := z_rng i; have M6 := M.1.1; have M7 := M.1.2.1; have M14 := M.1.2.2.1; have M15 := M.1.2.2.2; have MC := M.2; omega), fun h2 x i j  F hinv  hm => absurd hm (by have w_x := z_rng x; have w_i := z_rng i; have w_j := z_rng j; have M6 := M.1.1; have M7 := M.1.2.1; have M14 := M.1.2.2.1; have M15 := M.1.2.2.2; have MC := M.2; omega)⟩
  | succ N ih =>
    refine ⟨fun h2 x i l3  F hinv  hm => ?_, fun h2 x i j  F hinv  hm => ?_⟩
    · skip
      have w_x := z_rng x
      have w_i := z_rng i
      have M6 := M.1.1
      have M7 := M.1.2.1
      have M14 := M.1.2.2.1
      have M15 := M.1.2.2.2
      have MC := M.2
      have S2 := zG_sh F S
      apply ez_Wp_in
      show ez_gw _ _ _ _ _ _ (cz_30) _ _ _ _ _
      refine gw_skip _ ?_
      have r1 := z_rng (ez_I h2 71 0)
      refine gw_ld rfl rfl ?_
      refine gw_ld rfl rfl ?_
      have r2 := z_rng (ez_I h 71 6)
      refine z_gI2 (by decide) (zT S2 (by decide) rfl) (zG_f F (by decide)) ?_
      refine z_b2 (fun c3 => ?_) (fun c3 => ?_)
      · have c3 : ((ez_I h 71 6)).toInt ≤ i.toInt := c3
        refine gw_skip _ ?_
        refine gw_ld rfl rfl ?_
        refine z_C (m := -1) rfl rfl (fun x4 ex4 => ?_)
        refine z_2 rfl (fun x5 ex5 => ?_)
        have rx5 := z_rng x5
        refine z_ri ?_
        have t6 := congrArg Int32.toInt (zG_f F (k := 6) (by decide))
        have t7 := congrArg Int32.toInt (zG_f F (k := 7) (by decide))
        have t8 := congrArg Int32.toInt (zG_f F (k := 14) (by decide))
        have t9 := congrArg Int32.toInt (zG_f F (k := 15) (by decide))
        exact K _ x5 (zG_Y F (fun q hq => by first | omega | exact False.elim hq)) (mI_G M F (fun q hq => by first | omega | exact fun c => c) (by omega)) 
      · have c3 : ¬ (((ez_I h 71 6)).toInt ≤ i.toInt) := c3
        refine gw_ld rfl rfl ?_
        refine gw_ld rfl rfl ?_
        refine z_gR (q := 72) (zT S2 (by decide) rfl) (zRf S2 (by decide) (by decide) rfl) (by decide) ?_
        refine gw_ld rfl rfl ?_
        refine z_baV (n := 6000) (zT S2 (by decide) rfl) (zN S2 (by decide) rfl) (by omega) (zG_a F (by decide) (fun c => c)) ?_
        generalize ex10 : ez_I h 72 i.toInt.toNat = x10
        have rx10 := z_rng x10
        refine z_C (m := 255) rfl rfl (fun x11 ex11 => ?_)
        refine z_and (fun x12 ex12 ux12 wx12 => ?_)
        have rx12 := z_rng x12
        replace ux12 := ux12 (by omega)
        clear wx12
        refine z_2 rfl (fun x13 ex13 => ?_)
        have rx13 := z_rng x13
        refine gw_st rfl rfl rfl ?_
        show ez_gw _ _ _ _ _ _ _ _ [some (.ref 71), some (.int x13), some (.int i), l3] _ _ _
        refine z_C (m := 0) rfl rfl (fun x14 ex14 => ?_)
        refine gw_st rfl rfl rfl ?_
        show ez_gw _ _ _ _ _ _ _ _ [some (.ref 71), some (.int x13), some (.int i), some (.int x14)] _ _ _
        exact ez_Wp_at (ih.2 h2 x13 i x14 F (by omega)  (by omega)) rfl
    · skip
      have w_x := z_rng x
      have w_i := z_rng i
      have w_j := z_rng j
      have M6 := M.1.1
      have M7 := M.1.2.1
      have M14 := M.1.2.2.1
      have M15 := M.1.2.2.2
      have MC := M.2
      have S2 := zG_sh F S
      apply ez_Wp_in
      show ez_gw _ _ _ _ _ _ (cz_30) _ _ _ _ _
      refine gw_skip _ ?_
      have r15 := z_rng (ez_I h2 71 0)
      refine gw_ld rfl rfl ?_
      refine z_C (m := 8) rfl rfl (fun x16 ex16 => ?_)
      refine z_b2 (fun c17 => ?_) (fun c17 => ?_)
      · have c17 : x16.toInt ≤ j.toInt := c17
        refine gw_skip _ ?_
        refine z_inc rfl (by rw [show (1 : Int32).toInt = 1 from rfl]; omega) (fun x18 ex18 => ?_)
        rw [show (1 : Int32).toInt = 1 from rfl] at ex18
        show ez_gw _ _ _ _ _ _ _ _ [some (.ref 71), some (.int x), some (.int x18), some (.int j)] _ _ _
        refine z_go ?_
        exact ih.1 h2 x x18 (some (.int j)) F (by omega)  (by omega)
      · have c17 : ¬ (x16.toInt ≤ j.toInt) := c17
        refine gw_ld rfl rfl ?_
        refine z_C (m := 1) rfl rfl (fun x19 ex19 => ?_)
        refine z_and (fun x20 ex20 ux20 wx20 => ?_)
        have rx20 := z_rng x20
        replace ux20 := ux20 (by omega)
        clear wx20
        refine z_C (m := 1) rfl rfl (fun x21 ex21 => ?_)
        refine z_b2 (fun c22 => ?_) (fun c22 => ?_)
        · have c22 : x20.toInt ≠ x21.toInt := c22
          refine gw_skip _ ?_
          refine gw_ld rfl rfl ?_
          refine z_C (m := 1) rfl rfl (fun x23 ex23 => ?_)
          refine z_2 rfl (fun x24 ex24 => ?_)
          have rx24 := z_rng x24
          refine gw_st rfl rfl rfl ?_
          show ez_gw _ _ _ _ _ _ _ _ [some (.ref 71), some (.int x24), some (.int i), some (.int j)] _ _ _
          refine z_inc rfl (by rw [show (1 : Int32).toInt = 1 from rfl]; omega) (fun x25 ex25 => ?_)
          rw [show (1 : Int32).toInt = 1 from rfl] at ex25
          show ez_gw _ _ _ _ _ _ _ _ [some (.ref 71), some (.int x24), some (.int i), some (.int x25)] _ _ _
          refine z_go ?_
          exact ih.2 h2 x24 i x25 F (by omega)  (by omega)
        · have c22 : ¬ (x20.toInt ≠ x21.toInt) := c22
          refine gw_ld rfl rfl ?_
          refine z_C (m := 1) rfl rfl (fun x26 ex26 => ?_)
          refine z_2 rfl (fun x27 ex27 => ?_)
          have rx27 := z_rng x27
          refine z_C (m := -306674912) rfl rfl (fun x28 ex28 => ?_)
          refine z_2 rfl (fun x29 ex29 => ?_)
          have rx29 := z_rng x29
          refine z_go ?_
          refine gw_skip _ ?_
          refine gw_st rfl rfl rfl ?_
          show ez_gw _ _ _ _ _ _ _ _ [some (.ref 71), some (.int x29), some (.int i), some (.int j)] _ _ _
          refine z_inc rfl (by rw [show (1 : Int32).toInt = 1 from rfl]; omega) (fun x30 ex30 => ?_)
          rw [show (1 : Int32).toInt = 1 from rfl] at ex30
          show ez_gw _ _ _ _ _ _ _ _ [some (.ref 71), some (.int x29), some (.int i), some (.int x30)] _ _ _
          refine z_go ?_
          exact ih.2 h2 x29 i x30 F (by omega)  (by omega)
set_option maxRecDepth 4000 in
set_option maxHeartbeats 20000000 in
theorem m_crc {E : Nat → Nat × (Nat → Int32)} {d : Nat} {Q : ez_Q} {h : ez_H}  (S : zSh h) (M : mI h) (K : ∀ h2 (x : Int32), zF zY h h2 → mI h2 → Q (.inl (some (.int x))) h2) : pw E d 30 0 [some (.ref 71), none, none, none] [] h Q := by
  have M6 := M.1.1
  have M7 := M.1.2.1
  have M14 := M.1.2.2.1
  have M15 := M.1.2.2.2
  have MC := M.2
  have F := zG_refl (fun k => k = 0) (fun _ => False) h
  apply ez_Wp_in
  show ez_gw _ _ _ _ _ _ (cz_30) _ _ _ _ _
  refine gw_skip _ ?_
  have r1 := z_rng (ez_I h 71 0)
  refine gw_ld rfl rfl ?_
  refine z_C (m := 0) rfl rfl (fun x2 ex2 => ?_)
  refine z_pI (zT S (by decide) rfl) (fun h3 e4 => ?_)
  have S5 := zSh_set S e4
  have F6 := zG_setF F e4 (by decide)
  have f7 : ez_I h3 71 0 = x2 := zI_eq e4
  refine z_C (m := -1) rfl rfl (fun x8 ex8 => ?_)
  refine gw_st rfl rfl rfl ?_
  show ez_gw _ _ _ _ _ _ _ _ [some (.ref 71), some (.int x8), none, none] _ _ _
  refine z_C (m := 0) rfl rfl (fun x9 ex9 => ?_)
  refine gw_st rfl rfl rfl ?_
  show ez_gw _ _ _ _ _ _ _ _ [some (.ref 71), some (.int x8), some (.int x9), none] _ _ _
  have t10 := congrArg Int32.toInt (f7)
  exact ez_Wp_at ((m_crc_L0  S M K ((((2147483647 - x9.toInt) * 100)).toNat + 1)).1 h3 x8 x9 (none) F6 (by omega)  (by omega)) rfl
set_option maxRecDepth 4000 in
set_option maxHeartbeats 20000000 in
theorem m_parts {E : Nat → Nat × (Nat → Int32)} {d : Nat} {Q : ez_Q} {h : ez_H}  (S : zSh h) (M : mI h) (K : ∀ h2 (x : Int32), zF zY h h2 → mI h2 → Q (.inl (some (.int x))) h2) : pw E d 46 0 [some (.ref 71)] [] h Q := by
  have M6 := M.1.1
  have M7 := M.1.2.1
  have M14 := M.1.2.2.1
  have M15 := M.1.2.2.2
  have MC := M.2
  have F := zG_refl (fun k => k = 0) (fun _ => False) h
  apply ez_Wp_in
  show ez_gw _ _ _ _ _ _ (cz_46) _ _ _ _ _
  refine gw_skip _ ?_
  have r1 := z_rng (ez_I h 71 0)
  refine gw_ld rfl rfl ?_
  refine z_C (m := 0) rfl rfl (fun x2 ex2 => ?_)
  refine z_pI (zT S (by decide) rfl) (fun h3 e4 => ?_)
  have S5 := zSh_set S e4
  have F6 := zG_setF F e4 (by decide)
  have f7 : ez_I h3 71 0 = x2 := zI_eq e4
  refine gw_ld rfl rfl ?_
  have r8 := z_rng (ez_I h 71 14)
  refine z_gI2 (by decide) (zT S5 (by decide) rfl) (zG_f F6 (by decide)) ?_
  refine z_ri ?_
  have t9 := congrArg Int32.toInt (f7)
  have t10 := congrArg Int32.toInt (zG_f F6 (k := 6) (by decide))
  have t11 := congrArg Int32.toInt (zG_f F6 (k := 7) (by decide))
  have t12 := congrArg Int32.toInt (zG_f F6 (k := 14) (by decide))
  have t13 := congrArg Int32.toInt (zG_f F6 (k := 15) (by decide))
  exact K _ (ez_I h 71 14) (zG_Y F6 (fun q hq => by first | omega | exact False.elim hq)) (mI_G M F6 (fun q hq => by first | omega | exact fun c => c) (by omega)) 
set_option maxRecDepth 4000 in
set_option maxHeartbeats 20000000 in
theorem m_blocks {E : Nat → Nat × (Nat → Int32)} {d : Nat} {Q : ez_Q} {h : ez_H}  (S : zSh h) (M : mI h) (K : ∀ h2 (x : Int32), zF zY h h2 → mI h2 → Q (.inl (some (.int x))) h2) : pw E d 48 0 [some (.ref 71)] [] h Q := by
  have M6 := M.1.1
  have M7 := M.1.2.1
  have M14 := M.1.2.2.1
  have M15 := M.1.2.2.2
  have MC := M.2
  have F := zG_refl (fun k => k = 0) (fun _ => False) h
  apply ez_Wp_in
  show ez_gw _ _ _ _ _ _ (cz_48) _ _ _ _ _
  refine gw_skip _ ?_
  have r1 := z_rng (ez_I h 71 0)
  refine gw_ld rfl rfl ?_
  refine z_C (m := 0) rfl rfl (fun x2 ex2 => ?_)
  refine z_pI (zT S (by decide) rfl) (fun h3 e4 => ?_)
  have S5 := zSh_set S e4
  have F6 := zG_setF F e4 (by decide)
  have f7 : ez_I h3 71 0 = x2 := zI_eq e4
  refine gw_ld rfl rfl ?_
  have r8 := z_rng (ez_I h 71 15)
  refine z_gI2 (by decide) (zT S5 (by decide) rfl) (zG_f F6 (by decide)) ?_
  refine z_ri ?_
  have t9 := congrArg Int32.toInt (f7)
  have t10 := congrArg Int32.toInt (zG_f F6 (k := 6) (by decide))
  have t11 := congrArg Int32.toInt (zG_f F6 (k := 7) (by decide))
  have t12 := congrArg Int32.toInt (zG_f F6 (k := 14) (by decide))
  have t13 := congrArg Int32.toInt (zG_f F6 (k := 15) (by decide))
  exact K _ (ez_I h 71 15) (zG_Y F6 (fun q hq => by first | omega | exact False.elim hq)) (mI_G M F6 (fun q hq => by first | omega | exact fun c => c) (by omega)) 
set_option maxRecDepth 4000 in
set_option maxHeartbeats 20000000 in
theorem m_part {E : Nat → Nat × (Nat → Int32)} {d : Nat} {Q : ez_Q} {h : ez_H} {k : Int32} {w : Int32} (S : zSh h) (M : mI h) (K : ∀ h2 (x : Int32), zF zY h h2 → mI h2 → Q (.inl (some (.int x))) h2) : pw E d 47 0 [some (.ref 71), some (.int k), some (.int w)] [] h Q := by
  have gk := z_rng k
  have gw := z_rng w
  have M6 := M.1.1
  have M7 := M.1.2.1
  have M14 := M.1.2.2.1
  have M15 := M.1.2.2.2
  have MC := M.2
  have F := zG_refl (fun k => k = 0) (fun _ => False) h
  apply ez_Wp_in
  show ez_gw _ _ _ _ _ _ (cz_47) _ _ _ _ _
  refine gw_skip _ ?_
  have r1 := z_rng (ez_I h 71 0)
  refine gw_ld rfl rfl ?_
  refine z_C (m := 0) rfl rfl (fun x2 ex2 => ?_)
  refine z_pI (zT S (by decide) rfl) (fun h3 e4 => ?_)
  have S5 := zSh_set S e4
  have F6 := zG_setF F e4 (by decide)
  have f7 : ez_I h3 71 0 = x2 := zI_eq e4
  refine gw_ld rfl rfl ?_
  refine z_b1 (fun c8 => ?_) (fun c8 => ?_)
  · have c8 : k.toInt < 0 := c8
    refine gw_skip _ ?_
    refine z_C (m := -1) rfl rfl (fun x9 ex9 => ?_)
    refine z_ri ?_
    have t10 := congrArg Int32.toInt (f7)
    have t11 := congrArg Int32.toInt (zG_f F6 (k := 6) (by decide))
    have t12 := congrArg Int32.toInt (zG_f F6 (k := 7) (by decide))
    have t13 := congrArg Int32.toInt (zG_f F6 (k := 14) (by decide))
    have t14 := congrArg Int32.toInt (zG_f F6 (k := 15) (by decide))
    exact K _ x9 (zG_Y F6 (fun q hq => by first | omega | exact False.elim hq)) (mI_G M F6 (fun q hq => by first | omega | exact fun c => c) (by omega)) 
  · have c8 : ¬ (k.toInt < 0) := c8
    refine gw_ld rfl rfl ?_
    refine gw_ld rfl rfl ?_
    have r15 := z_rng (ez_I h 71 14)
    refine z_gI2 (by decide) (zT S5 (by decide) rfl) (zG_f F6 (by decide)) ?_
    refine z_b2 (fun c16 => ?_) (fun c16 => ?_)
    · have c16 : k.toInt < ((ez_I h 71 14)).toInt := c16
      refine gw_skip _ ?_
      refine gw_ld rfl rfl ?_
      refine z_b1 (fun c17 => ?_) (fun c17 => ?_)
      · have c17 : w.toInt ≠ 0 := c17
        refine gw_skip _ ?_
        refine gw_ld rfl rfl ?_
        refine z_C (m := 1) rfl rfl (fun x18 ex18 => ?_)
        refine z_b2 (fun c19 => ?_) (fun c19 => ?_)
        · have c19 : w.toInt ≠ x18.toInt := c19
          refine gw_skip _ ?_
          refine gw_ld rfl rfl ?_
          refine z_C (m := 2) rfl rfl (fun x20 ex20 => ?_)
          refine z_b2 (fun c21 => ?_) (fun c21 => ?_)
          · have c21 : w.toInt ≠ x20.toInt := c21
            refine gw_skip _ ?_
            refine z_C (m := -1) rfl rfl (fun x22 ex22 => ?_)
            refine z_ri ?_
            have t23 := congrArg Int32.toInt (f7)
            have t24 := congrArg Int32.toInt (zG_f F6 (k := 6) (by decide))
            have t25 := congrArg Int32.toInt (zG_f F6 (k := 7) (by decide))
            have t26 := congrArg Int32.toInt (zG_f F6 (k := 14) (by decide))
            have t27 := congrArg Int32.toInt (zG_f F6 (k := 15) (by decide))
            exact K _ x22 (zG_Y F6 (fun q hq => by first | omega | exact False.elim hq)) (mI_G M F6 (fun q hq => by first | omega | exact fun c => c) (by omega)) 
          · have c21 : ¬ (w.toInt ≠ x20.toInt) := c21
            refine gw_ld rfl rfl ?_
            refine z_gR (q := 80) (zT S5 (by decide) rfl) (zRf S5 (by decide) (by decide) rfl) (by decide) ?_
            refine gw_ld rfl rfl ?_
            refine z_iaV (n := 6000) (zT S5 (by decide) rfl) (zN S5 (by decide) rfl) (by omega) (zG_a F6 (by decide) (fun c => c)) ?_
            generalize ex28 : ez_I h 80 k.toInt.toNat = x28
            have rx28 := z_rng x28
            refine z_go ?_
            refine gw_skip _ ?_
            refine z_ri ?_
            have t29 := congrArg Int32.toInt (f7)
            have t30 := congrArg Int32.toInt (zG_f F6 (k := 6) (by decide))
            have t31 := congrArg Int32.toInt (zG_f F6 (k := 7) (by decide))
            have t32 := congrArg Int32.toInt (zG_f F6 (k := 14) (by decide))
            have t33 := congrArg Int32.toInt (zG_f F6 (k := 15) (by decide))
            exact K _ x28 (zG_Y F6 (fun q hq => by first | omega | exact False.elim hq)) (mI_G M F6 (fun q hq => by first | omega | exact fun c => c) (by omega)) 
        · have c19 : ¬ (w.toInt ≠ x18.toInt) := c19
          refine gw_ld rfl rfl ?_
          refine z_gR (q := 78) (zT S5 (by decide) rfl) (zRf S5 (by decide) (by decide) rfl) (by decide) ?_
          refine gw_ld rfl rfl ?_
          refine z_iaV (n := 6000) (zT S5 (by decide) rfl) (zN S5 (by decide) rfl) (by omega) (zG_a F6 (by decide) (fun c => c)) ?_
          generalize ex34 : ez_I h 78 k.toInt.toNat = x34
          have rx34 := z_rng x34
          refine z_go ?_
          refine gw_skip _ ?_
          refine z_ri ?_
          have t35 := congrArg Int32.toInt (f7)
          have t36 := congrArg Int32.toInt (zG_f F6 (k := 6) (by decide))
          have t37 := congrArg Int32.toInt (zG_f F6 (k := 7) (by decide))
          have t38 := congrArg Int32.toInt (zG_f F6 (k := 14) (by decide))
          have t39 := congrArg Int32.toInt (zG_f F6 (k := 15) (by decide))
          exact K _ x34 (zG_Y F6 (fun q hq => by first | omega | exact False.elim hq)) (mI_G M F6 (fun q hq => by first | omega | exact fun c => c) (by omega)) 
      · have c17 : ¬ (w.toInt ≠ 0) := c17
        refine gw_ld rfl rfl ?_
        refine z_gR (q := 78) (zT S5 (by decide) rfl) (zRf S5 (by decide) (by decide) rfl) (by decide) ?_
        refine gw_ld rfl rfl ?_
        refine z_iaV (n := 6000) (zT S5 (by decide) rfl) (zN S5 (by decide) rfl) (by omega) (zG_a F6 (by decide) (fun c => c)) ?_
        generalize ex40 : ez_I h 78 k.toInt.toNat = x40
        have rx40 := z_rng x40
        refine z_b1 (fun c41 => ?_) (fun c41 => ?_)
        · have c41 : x40.toInt ≠ 0 := c41
          refine gw_skip _ ?_
          refine gw_ld rfl rfl ?_
          refine z_gR (q := 77) (zT S5 (by decide) rfl) (zRf S5 (by decide) (by decide) rfl) (by decide) ?_
          refine gw_ld rfl rfl ?_
          refine z_iaV (n := 6000) (zT S5 (by decide) rfl) (zN S5 (by decide) rfl) (by omega) (zG_a F6 (by decide) (fun c => c)) ?_
          generalize ex42 : ez_I h 77 k.toInt.toNat = x42
          have rx42 := z_rng x42
          refine z_go ?_
          refine gw_skip _ ?_
          refine z_ri ?_
          have t43 := congrArg Int32.toInt (f7)
          have t44 := congrArg Int32.toInt (zG_f F6 (k := 6) (by decide))
          have t45 := congrArg Int32.toInt (zG_f F6 (k := 7) (by decide))
          have t46 := congrArg Int32.toInt (zG_f F6 (k := 14) (by decide))
          have t47 := congrArg Int32.toInt (zG_f F6 (k := 15) (by decide))
          exact K _ x42 (zG_Y F6 (fun q hq => by first | omega | exact False.elim hq)) (mI_G M F6 (fun q hq => by first | omega | exact fun c => c) (by omega)) 
        · have c41 : ¬ (x40.toInt ≠ 0) := c41
          refine gw_ld rfl rfl ?_
          refine z_gR (q := 79) (zT S5 (by decide) rfl) (zRf S5 (by decide) (by decide) rfl) (by decide) ?_
          refine gw_ld rfl rfl ?_
          refine z_iaV (n := 6000) (zT S5 (by decide) rfl) (zN S5 (by decide) rfl) (by omega) (zG_a F6 (by decide) (fun c => c)) ?_
          generalize ex48 : ez_I h 79 k.toInt.toNat = x48
          have rx48 := z_rng x48
          refine z_go ?_
          refine gw_skip _ ?_
          refine z_ri ?_
          have t49 := congrArg Int32.toInt (f7)
          have t50 := congrArg Int32.toInt (zG_f F6 (k := 6) (by decide))
          have t51 := congrArg Int32.toInt (zG_f F6 (k := 7) (by decide))
          have t52 := congrArg Int32.toInt (zG_f F6 (k := 14) (by decide))
          have t53 := congrArg Int32.toInt (zG_f F6 (k := 15) (by decide))
          exact K _ x48 (zG_Y F6 (fun q hq => by first | omega | exact False.elim hq)) (mI_G M F6 (fun q hq => by first | omega | exact fun c => c) (by omega)) 
    · have c16 : ¬ (k.toInt < ((ez_I h 71 14)).toInt) := c16
      refine z_C (m := -1) rfl rfl (fun x54 ex54 => ?_)
      refine z_ri ?_
      have t55 := congrArg Int32.toInt (f7)
      have t56 := congrArg Int32.toInt (zG_f F6 (k := 6) (by decide))
      have t57 := congrArg Int32.toInt (zG_f F6 (k := 7) (by decide))
      have t58 := congrArg Int32.toInt (zG_f F6 (k := 14) (by decide))
      have t59 := congrArg Int32.toInt (zG_f F6 (k := 15) (by decide))
      exact K _ x54 (zG_Y F6 (fun q hq => by first | omega | exact False.elim hq)) (mI_G M F6 (fun q hq => by first | omega | exact fun c => c) (by omega)) 
set_option maxRecDepth 4000 in
set_option maxHeartbeats 20000000 in
theorem m_block {E : Nat → Nat × (Nat → Int32)} {d : Nat} {Q : ez_Q} {h : ez_H} {k : Int32} {w : Int32} (S : zSh h) (M : mI h) (K : ∀ h2 (x : Int32), zF zY h h2 → mI h2 → Q (.inl (some (.int x))) h2) : pw E d 49 0 [some (.ref 71), some (.int k), some (.int w)] [] h Q := by
  have gk := z_rng k
  have gw := z_rng w
  have M6 := M.1.1
  have M7 := M.1.2.1
  have M14 := M.1.2.2.1
  have M15 := M.1.2.2.2
  have MC := M.2
  have F := zG_refl (fun k => k = 0) (fun _ => False) h
  apply ez_Wp_in
  show ez_gw _ _ _ _ _ _ (cz_49) _ _ _ _ _
  refine gw_skip _ ?_
  have r1 := z_rng (ez_I h 71 0)
  refine gw_ld rfl rfl ?_
  refine z_C (m := 0) rfl rfl (fun x2 ex2 => ?_)
  refine z_pI (zT S (by decide) rfl) (fun h3 e4 => ?_)
  have S5 := zSh_set S e4
  have F6 := zG_setF F e4 (by decide)
  have f7 : ez_I h3 71 0 = x2 := zI_eq e4
  refine gw_ld rfl rfl ?_
  refine z_b1 (fun c8 => ?_) (fun c8 => ?_)
  · have c8 : k.toInt < 0 := c8
    refine gw_skip _ ?_
    refine z_C (m := -1) rfl rfl (fun x9 ex9 => ?_)
    refine z_ri ?_
    have t10 := congrArg Int32.toInt (f7)
    have t11 := congrArg Int32.toInt (zG_f F6 (k := 6) (by decide))
    have t12 := congrArg Int32.toInt (zG_f F6 (k := 7) (by decide))
    have t13 := congrArg Int32.toInt (zG_f F6 (k := 14) (by decide))
    have t14 := congrArg Int32.toInt (zG_f F6 (k := 15) (by decide))
    exact K _ x9 (zG_Y F6 (fun q hq => by first | omega | exact False.elim hq)) (mI_G M F6 (fun q hq => by first | omega | exact fun c => c) (by omega)) 
  · have c8 : ¬ (k.toInt < 0) := c8
    refine gw_ld rfl rfl ?_
    refine gw_ld rfl rfl ?_
    have r15 := z_rng (ez_I h 71 15)
    refine z_gI2 (by decide) (zT S5 (by decide) rfl) (zG_f F6 (by decide)) ?_
    refine z_b2 (fun c16 => ?_) (fun c16 => ?_)
    · have c16 : k.toInt < ((ez_I h 71 15)).toInt := c16
      refine gw_skip _ ?_
      refine gw_ld rfl rfl ?_
      refine gw_jp rfl rfl rfl rfl rfl rfl rfl ?_
      refine ⟨fun c17 => ?_, fun c17 => ?_⟩
      · skip
        refine gw_skip _ ?_
        refine gw_ld rfl rfl ?_
        refine z_gR (q := 83) (zT S5 (by decide) rfl) (zRf S5 (by decide) (by decide) rfl) (by decide) ?_
        refine gw_ld rfl rfl ?_
        refine z_iaV (n := 12) (zT S5 (by decide) rfl) (zN S5 (by decide) rfl) (by omega) (zG_a F6 (by decide) (fun c => c)) ?_
        generalize ex18 : ez_I h 83 k.toInt.toNat = x18
        have rx18 := z_rng x18
        refine z_ri ?_
        have t19 := congrArg Int32.toInt (f7)
        have t20 := congrArg Int32.toInt (zG_f F6 (k := 6) (by decide))
        have t21 := congrArg Int32.toInt (zG_f F6 (k := 7) (by decide))
        have t22 := congrArg Int32.toInt (zG_f F6 (k := 14) (by decide))
        have t23 := congrArg Int32.toInt (zG_f F6 (k := 15) (by decide))
        exact K _ x18 (zG_Y F6 (fun q hq => by first | omega | exact False.elim hq)) (mI_G M F6 (fun q hq => by first | omega | exact fun c => c) (by omega)) 
      refine ⟨fun c24 => ?_, fun c24 => ?_⟩
      · skip
        refine gw_skip _ ?_
        refine gw_ld rfl rfl ?_
        refine z_gR (q := 84) (zT S5 (by decide) rfl) (zRf S5 (by decide) (by decide) rfl) (by decide) ?_
        refine gw_ld rfl rfl ?_
        refine z_iaV (n := 12) (zT S5 (by decide) rfl) (zN S5 (by decide) rfl) (by omega) (zG_a F6 (by decide) (fun c => c)) ?_
        generalize ex25 : ez_I h 84 k.toInt.toNat = x25
        have rx25 := z_rng x25
        refine z_ri ?_
        have t26 := congrArg Int32.toInt (f7)
        have t27 := congrArg Int32.toInt (zG_f F6 (k := 6) (by decide))
        have t28 := congrArg Int32.toInt (zG_f F6 (k := 7) (by decide))
        have t29 := congrArg Int32.toInt (zG_f F6 (k := 14) (by decide))
        have t30 := congrArg Int32.toInt (zG_f F6 (k := 15) (by decide))
        exact K _ x25 (zG_Y F6 (fun q hq => by first | omega | exact False.elim hq)) (mI_G M F6 (fun q hq => by first | omega | exact fun c => c) (by omega)) 
      refine ⟨fun c31 => ?_, fun c31 => ?_⟩
      · skip
        refine gw_skip _ ?_
        refine gw_ld rfl rfl ?_
        refine z_gR (q := 85) (zT S5 (by decide) rfl) (zRf S5 (by decide) (by decide) rfl) (by decide) ?_
        refine gw_ld rfl rfl ?_
        refine z_iaV (n := 12) (zT S5 (by decide) rfl) (zN S5 (by decide) rfl) (by omega) (zG_a F6 (by decide) (fun c => c)) ?_
        generalize ex32 : ez_I h 85 k.toInt.toNat = x32
        have rx32 := z_rng x32
        refine z_ri ?_
        have t33 := congrArg Int32.toInt (f7)
        have t34 := congrArg Int32.toInt (zG_f F6 (k := 6) (by decide))
        have t35 := congrArg Int32.toInt (zG_f F6 (k := 7) (by decide))
        have t36 := congrArg Int32.toInt (zG_f F6 (k := 14) (by decide))
        have t37 := congrArg Int32.toInt (zG_f F6 (k := 15) (by decide))
        exact K _ x32 (zG_Y F6 (fun q hq => by first | omega | exact False.elim hq)) (mI_G M F6 (fun q hq => by first | omega | exact fun c => c) (by omega)) 
      refine ⟨fun c38 => ?_, fun c38 => ?_⟩
      · skip
        refine gw_skip _ ?_
        refine gw_ld rfl rfl ?_
        refine z_gR (q := 86) (zT S5 (by decide) rfl) (zRf S5 (by decide) (by decide) rfl) (by decide) ?_
        refine gw_ld rfl rfl ?_
        refine z_iaV (n := 12) (zT S5 (by decide) rfl) (zN S5 (by decide) rfl) (by omega) (zG_a F6 (by decide) (fun c => c)) ?_
        generalize ex39 : ez_I h 86 k.toInt.toNat = x39
        have rx39 := z_rng x39
        refine z_ri ?_
        have t40 := congrArg Int32.toInt (f7)
        have t41 := congrArg Int32.toInt (zG_f F6 (k := 6) (by decide))
        have t42 := congrArg Int32.toInt (zG_f F6 (k := 7) (by decide))
        have t43 := congrArg Int32.toInt (zG_f F6 (k := 14) (by decide))
        have t44 := congrArg Int32.toInt (zG_f F6 (k := 15) (by decide))
        exact K _ x39 (zG_Y F6 (fun q hq => by first | omega | exact False.elim hq)) (mI_G M F6 (fun q hq => by first | omega | exact fun c => c) (by omega)) 
      refine ⟨fun c45 => ?_, fun c45 => ?_⟩
      · skip
        refine gw_skip _ ?_
        refine gw_ld rfl rfl ?_
        refine z_gR (q := 87) (zT S5 (by decide) rfl) (zRf S5 (by decide) (by decide) rfl) (by decide) ?_
        refine gw_ld rfl rfl ?_
        refine z_iaV (n := 12) (zT S5 (by decide) rfl) (zN S5 (by decide) rfl) (by omega) (zG_a F6 (by decide) (fun c => c)) ?_
        generalize ex46 : ez_I h 87 k.toInt.toNat = x46
        have rx46 := z_rng x46
        refine z_ri ?_
        have t47 := congrArg Int32.toInt (f7)
        have t48 := congrArg Int32.toInt (zG_f F6 (k := 6) (by decide))
        have t49 := congrArg Int32.toInt (zG_f F6 (k := 7) (by decide))
        have t50 := congrArg Int32.toInt (zG_f F6 (k := 14) (by decide))
        have t51 := congrArg Int32.toInt (zG_f F6 (k := 15) (by decide))
        exact K _ x46 (zG_Y F6 (fun q hq => by first | omega | exact False.elim hq)) (mI_G M F6 (fun q hq => by first | omega | exact fun c => c) (by omega)) 
      refine ⟨fun c52 => ?_, fun c52 => ?_⟩
      · skip
        refine gw_skip _ ?_
        refine gw_ld rfl rfl ?_
        refine z_gR (q := 88) (zT S5 (by decide) rfl) (zRf S5 (by decide) (by decide) rfl) (by decide) ?_
        refine gw_ld rfl rfl ?_
        refine z_iaV (n := 12) (zT S5 (by decide) rfl) (zN S5 (by decide) rfl) (by omega) (zG_a F6 (by decide) (fun c => c)) ?_
        generalize ex53 : ez_I h 88 k.toInt.toNat = x53
        have rx53 := z_rng x53
        refine z_ri ?_
        have t54 := congrArg Int32.toInt (f7)
        have t55 := congrArg Int32.toInt (zG_f F6 (k := 6) (by decide))
        have t56 := congrArg Int32.toInt (zG_f F6 (k := 7) (by decide))
        have t57 := congrArg Int32.toInt (zG_f F6 (k := 14) (by decide))
        have t58 := congrArg Int32.toInt (zG_f F6 (k := 15) (by decide))
        exact K _ x53 (zG_Y F6 (fun q hq => by first | omega | exact False.elim hq)) (mI_G M F6 (fun q hq => by first | omega | exact fun c => c) (by omega)) 
      refine gw_skip _ ?_
      refine z_C (m := -1) rfl rfl (fun x59 ex59 => ?_)
      refine z_ri ?_
      have t60 := congrArg Int32.toInt (f7)
      have t61 := congrArg Int32.toInt (zG_f F6 (k := 6) (by decide))
      have t62 := congrArg Int32.toInt (zG_f F6 (k := 7) (by decide))
      have t63 := congrArg Int32.toInt (zG_f F6 (k := 14) (by decide))
      have t64 := congrArg Int32.toInt (zG_f F6 (k := 15) (by decide))
      exact K _ x59 (zG_Y F6 (fun q hq => by first | omega | exact False.elim hq)) (mI_G M F6 (fun q hq => by first | omega | exact fun c => c) (by omega)) 
    · have c16 : ¬ (k.toInt < ((ez_I h 71 15)).toInt) := c16
      refine z_C (m := -1) rfl rfl (fun x65 ex65 => ?_)
      refine z_ri ?_
      have t66 := congrArg Int32.toInt (f7)
      have t67 := congrArg Int32.toInt (zG_f F6 (k := 6) (by decide))
      have t68 := congrArg Int32.toInt (zG_f F6 (k := 7) (by decide))
      have t69 := congrArg Int32.toInt (zG_f F6 (k := 14) (by decide))
      have t70 := congrArg Int32.toInt (zG_f F6 (k := 15) (by decide))
      exact K _ x65 (zG_Y F6 (fun q hq => by first | omega | exact False.elim hq)) (mI_G M F6 (fun q hq => by first | omega | exact fun c => c) (by omega)) 
set_option maxRecDepth 4000 in
set_option maxHeartbeats 20000000 in
theorem m_code {E : Nat → Nat × (Nat → Int32)} {d : Nat} {Q : ez_Q} {h : ez_H} {k : Int32} {w : Int32} {y : Int32} (S : zSh h) (M : mI h) (K : ∀ h2 (x : Int32), zF zY h h2 → mI h2 → Q (.inl (some (.int x))) h2) : pw E d 50 0 [some (.ref 71), some (.int k), some (.int w), some (.int y)] [] h Q := by
  have gk := z_rng k
  have gw := z_rng w
  have gy := z_rng y
  have M6 := M.1.1
  have M7 := M.1.2.1
  have M14 := M.1.2.2.1
  have M15 := M.1.2.2.2
  have MC := M.2
  have F := zG_refl (fun k => k = 0) (fun _ => False) h
  apply ez_Wp_in
  show ez_gw _ _ _ _ _ _ (cz_50) _ _ _ _ _
  refine gw_skip _ ?_
  have r1 := z_rng (ez_I h 71 0)
  refine gw_ld rfl rfl ?_
  refine z_C (m := 0) rfl rfl (fun x2 ex2 => ?_)
  refine z_pI (zT S (by decide) rfl) (fun h3 e4 => ?_)
  have S5 := zSh_set S e4
  have F6 := zG_setF F e4 (by decide)
  have f7 : ez_I h3 71 0 = x2 := zI_eq e4
  refine gw_ld rfl rfl ?_
  refine z_b1 (fun c8 => ?_) (fun c8 => ?_)
  · have c8 : k.toInt < 0 := c8
    refine gw_skip _ ?_
    refine z_C (m := -1) rfl rfl (fun x9 ex9 => ?_)
    refine z_ri ?_
    have t10 := congrArg Int32.toInt (f7)
    have t11 := congrArg Int32.toInt (zG_f F6 (k := 6) (by decide))
    have t12 := congrArg Int32.toInt (zG_f F6 (k := 7) (by decide))
    have t13 := congrArg Int32.toInt (zG_f F6 (k := 14) (by decide))
    have t14 := congrArg Int32.toInt (zG_f F6 (k := 15) (by decide))
    exact K _ x9 (zG_Y F6 (fun q hq => by first | omega | exact False.elim hq)) (mI_G M F6 (fun q hq => by first | omega | exact fun c => c) (by omega)) 
  · have c8 : ¬ (k.toInt < 0) := c8
    refine gw_ld rfl rfl ?_
    refine gw_ld rfl rfl ?_
    have r15 := z_rng (ez_I h 71 15)
    refine z_gI2 (by decide) (zT S5 (by decide) rfl) (zG_f F6 (by decide)) ?_
    refine z_b2 (fun c16 => ?_) (fun c16 => ?_)
    · have c16 : ((ez_I h 71 15)).toInt ≤ k.toInt := c16
      refine gw_skip _ ?_
      refine z_C (m := -1) rfl rfl (fun x17 ex17 => ?_)
      refine z_ri ?_
      have t18 := congrArg Int32.toInt (f7)
      have t19 := congrArg Int32.toInt (zG_f F6 (k := 6) (by decide))
      have t20 := congrArg Int32.toInt (zG_f F6 (k := 7) (by decide))
      have t21 := congrArg Int32.toInt (zG_f F6 (k := 14) (by decide))
      have t22 := congrArg Int32.toInt (zG_f F6 (k := 15) (by decide))
      exact K _ x17 (zG_Y F6 (fun q hq => by first | omega | exact False.elim hq)) (mI_G M F6 (fun q hq => by first | omega | exact fun c => c) (by omega)) 
    · have c16 : ¬ (((ez_I h 71 15)).toInt ≤ k.toInt) := c16
      refine gw_ld rfl rfl ?_
      refine z_gR (q := 83) (zT S5 (by decide) rfl) (zRf S5 (by decide) (by decide) rfl) (by decide) ?_
      refine gw_ld rfl rfl ?_
      refine z_iaV (n := 12) (zT S5 (by decide) rfl) (zN S5 (by decide) rfl) (by omega) (zG_a F6 (by decide) (fun c => c)) ?_
      generalize ex23 : ez_I h 83 k.toInt.toNat = x23
      have rx23 := z_rng x23
      refine z_C (m := 2) rfl rfl (fun x24 ex24 => ?_)
      refine z_b2 (fun c25 => ?_) (fun c25 => ?_)
      · have c25 : x23.toInt ≠ x24.toInt := c25
        refine gw_skip _ ?_
        refine z_C (m := -1) rfl rfl (fun x26 ex26 => ?_)
        refine z_ri ?_
        have t27 := congrArg Int32.toInt (f7)
        have t28 := congrArg Int32.toInt (zG_f F6 (k := 6) (by decide))
        have t29 := congrArg Int32.toInt (zG_f F6 (k := 7) (by decide))
        have t30 := congrArg Int32.toInt (zG_f F6 (k := 14) (by decide))
        have t31 := congrArg Int32.toInt (zG_f F6 (k := 15) (by decide))
        exact K _ x26 (zG_Y F6 (fun q hq => by first | omega | exact False.elim hq)) (mI_G M F6 (fun q hq => by first | omega | exact fun c => c) (by omega)) 
      · have c25 : ¬ (x23.toInt ≠ x24.toInt) := c25
        refine gw_ld rfl rfl ?_
        refine z_b1 (fun c32 => ?_) (fun c32 => ?_)
        · have c32 : w.toInt < 0 := c32
          refine gw_skip _ ?_
          refine z_C (m := -1) rfl rfl (fun x33 ex33 => ?_)
          refine z_ri ?_
          have t34 := congrArg Int32.toInt (f7)
          have t35 := congrArg Int32.toInt (zG_f F6 (k := 6) (by decide))
          have t36 := congrArg Int32.toInt (zG_f F6 (k := 7) (by decide))
          have t37 := congrArg Int32.toInt (zG_f F6 (k := 14) (by decide))
          have t38 := congrArg Int32.toInt (zG_f F6 (k := 15) (by decide))
          exact K _ x33 (zG_Y F6 (fun q hq => by first | omega | exact False.elim hq)) (mI_G M F6 (fun q hq => by first | omega | exact fun c => c) (by omega)) 
        · have c32 : ¬ (w.toInt < 0) := c32
          refine gw_ld rfl rfl ?_
          refine z_C (m := 2) rfl rfl (fun x39 ex39 => ?_)
          refine z_b2 (fun c40 => ?_) (fun c40 => ?_)
          · have c40 : x39.toInt < w.toInt := c40
            refine gw_skip _ ?_
            refine z_C (m := -1) rfl rfl (fun x41 ex41 => ?_)
            refine z_ri ?_
            have t42 := congrArg Int32.toInt (f7)
            have t43 := congrArg Int32.toInt (zG_f F6 (k := 6) (by decide))
            have t44 := congrArg Int32.toInt (zG_f F6 (k := 7) (by decide))
            have t45 := congrArg Int32.toInt (zG_f F6 (k := 14) (by decide))
            have t46 := congrArg Int32.toInt (zG_f F6 (k := 15) (by decide))
            exact K _ x41 (zG_Y F6 (fun q hq => by first | omega | exact False.elim hq)) (mI_G M F6 (fun q hq => by first | omega | exact fun c => c) (by omega)) 
          · have c40 : ¬ (x39.toInt < w.toInt) := c40
            refine gw_ld rfl rfl ?_
            refine z_b1 (fun c47 => ?_) (fun c47 => ?_)
            · have c47 : 0 ≤ y.toInt := c47
              refine gw_skip _ ?_
              refine gw_ld rfl rfl ?_
              refine z_b1 (fun c48 => ?_) (fun c48 => ?_)
              · have c48 : w.toInt ≠ 0 := c48
                refine gw_skip _ ?_
                refine gw_ld rfl rfl ?_
                refine z_C (m := 1) rfl rfl (fun x49 ex49 => ?_)
                refine z_b2 (fun c50 => ?_) (fun c50 => ?_)
                · have c50 : w.toInt ≠ x49.toInt := c50
                  refine gw_skip _ ?_
                  refine gw_ld rfl rfl ?_
                  refine z_C (m := 19) rfl rfl (fun x51 ex51 => ?_)
                  refine z_b2 (fun c52 => ?_) (fun c52 => ?_)
                  · have c52 : x51.toInt ≤ y.toInt := c52
                    refine gw_skip _ ?_
                    refine z_C (m := -1) rfl rfl (fun x53 ex53 => ?_)
                    refine z_ri ?_
                    have t54 := congrArg Int32.toInt (f7)
                    have t55 := congrArg Int32.toInt (zG_f F6 (k := 6) (by decide))
                    have t56 := congrArg Int32.toInt (zG_f F6 (k := 7) (by decide))
                    have t57 := congrArg Int32.toInt (zG_f F6 (k := 14) (by decide))
                    have t58 := congrArg Int32.toInt (zG_f F6 (k := 15) (by decide))
                    exact K _ x53 (zG_Y F6 (fun q hq => by first | omega | exact False.elim hq)) (mI_G M F6 (fun q hq => by first | omega | exact fun c => c) (by omega)) 
                  · have c52 : ¬ (x51.toInt ≤ y.toInt) := c52
                    refine gw_ld rfl rfl ?_
                    refine z_gR (q := 91) (zT S5 (by decide) rfl) (zRf S5 (by decide) (by decide) rfl) (by decide) ?_
                    refine z_C (m := 19) rfl rfl (fun x59 ex59 => ?_)
                    refine gw_ld rfl rfl ?_
                    refine z_mulL (c := 19) ex59 (by omega) (fun x60 ex60 => ?_)
                    refine gw_ld rfl rfl ?_
                    refine z_add (by omega) (fun x61 ex61 => ?_)
                    refine z_iaV (n := 228) (zT S5 (by decide) rfl) (zN S5 (by decide) rfl) (by omega) (zG_a F6 (by decide) (fun c => c)) ?_
                    generalize ex62 : ez_I h 91 x61.toInt.toNat = x62
                    have rx62 := z_rng x62
                    refine z_go ?_
                    refine gw_skip _ ?_
                    refine z_ri ?_
                    have t63 := congrArg Int32.toInt (f7)
                    have t64 := congrArg Int32.toInt (zG_f F6 (k := 6) (by decide))
                    have t65 := congrArg Int32.toInt (zG_f F6 (k := 7) (by decide))
                    have t66 := congrArg Int32.toInt (zG_f F6 (k := 14) (by decide))
                    have t67 := congrArg Int32.toInt (zG_f F6 (k := 15) (by decide))
                    exact K _ x62 (zG_Y F6 (fun q hq => by first | omega | exact False.elim hq)) (mI_G M F6 (fun q hq => by first | omega | exact fun c => c) (by omega)) 
                · have c50 : ¬ (w.toInt ≠ x49.toInt) := c50
                  refine gw_ld rfl rfl ?_
                  refine z_C (m := 30) rfl rfl (fun x68 ex68 => ?_)
                  refine z_b2 (fun c69 => ?_) (fun c69 => ?_)
                  · have c69 : x68.toInt ≤ y.toInt := c69
                    refine gw_skip _ ?_
                    refine z_C (m := -1) rfl rfl (fun x70 ex70 => ?_)
                    refine z_ri ?_
                    have t71 := congrArg Int32.toInt (f7)
                    have t72 := congrArg Int32.toInt (zG_f F6 (k := 6) (by decide))
                    have t73 := congrArg Int32.toInt (zG_f F6 (k := 7) (by decide))
                    have t74 := congrArg Int32.toInt (zG_f F6 (k := 14) (by decide))
                    have t75 := congrArg Int32.toInt (zG_f F6 (k := 15) (by decide))
                    exact K _ x70 (zG_Y F6 (fun q hq => by first | omega | exact False.elim hq)) (mI_G M F6 (fun q hq => by first | omega | exact fun c => c) (by omega)) 
                  · have c69 : ¬ (x68.toInt ≤ y.toInt) := c69
                    refine gw_ld rfl rfl ?_
                    refine z_gR (q := 90) (zT S5 (by decide) rfl) (zRf S5 (by decide) (by decide) rfl) (by decide) ?_
                    refine z_C (m := 30) rfl rfl (fun x76 ex76 => ?_)
                    refine gw_ld rfl rfl ?_
                    refine z_mulL (c := 30) ex76 (by omega) (fun x77 ex77 => ?_)
                    refine gw_ld rfl rfl ?_
                    refine z_add (by omega) (fun x78 ex78 => ?_)
                    refine z_iaV (n := 360) (zT S5 (by decide) rfl) (zN S5 (by decide) rfl) (by omega) (zG_a F6 (by decide) (fun c => c)) ?_
                    generalize ex79 : ez_I h 90 x78.toInt.toNat = x79
                    have rx79 := z_rng x79
                    refine z_go ?_
                    refine gw_skip _ ?_
                    refine z_ri ?_
                    have t80 := congrArg Int32.toInt (f7)
                    have t81 := congrArg Int32.toInt (zG_f F6 (k := 6) (by decide))
                    have t82 := congrArg Int32.toInt (zG_f F6 (k := 7) (by decide))
                    have t83 := congrArg Int32.toInt (zG_f F6 (k := 14) (by decide))
                    have t84 := congrArg Int32.toInt (zG_f F6 (k := 15) (by decide))
                    exact K _ x79 (zG_Y F6 (fun q hq => by first | omega | exact False.elim hq)) (mI_G M F6 (fun q hq => by first | omega | exact fun c => c) (by omega)) 
              · have c48 : ¬ (w.toInt ≠ 0) := c48
                refine gw_ld rfl rfl ?_
                refine z_C (m := 286) rfl rfl (fun x85 ex85 => ?_)
                refine z_b2 (fun c86 => ?_) (fun c86 => ?_)
                · have c86 : x85.toInt ≤ y.toInt := c86
                  refine gw_skip _ ?_
                  refine z_C (m := -1) rfl rfl (fun x87 ex87 => ?_)
                  refine z_ri ?_
                  have t88 := congrArg Int32.toInt (f7)
                  have t89 := congrArg Int32.toInt (zG_f F6 (k := 6) (by decide))
                  have t90 := congrArg Int32.toInt (zG_f F6 (k := 7) (by decide))
                  have t91 := congrArg Int32.toInt (zG_f F6 (k := 14) (by decide))
                  have t92 := congrArg Int32.toInt (zG_f F6 (k := 15) (by decide))
                  exact K _ x87 (zG_Y F6 (fun q hq => by first | omega | exact False.elim hq)) (mI_G M F6 (fun q hq => by first | omega | exact fun c => c) (by omega)) 
                · have c86 : ¬ (x85.toInt ≤ y.toInt) := c86
                  refine gw_ld rfl rfl ?_
                  refine z_gR (q := 89) (zT S5 (by decide) rfl) (zRf S5 (by decide) (by decide) rfl) (by decide) ?_
                  refine z_C (m := 288) rfl rfl (fun x93 ex93 => ?_)
                  refine gw_ld rfl rfl ?_
                  refine z_mulL (c := 288) ex93 (by omega) (fun x94 ex94 => ?_)
                  refine gw_ld rfl rfl ?_
                  refine z_add (by omega) (fun x95 ex95 => ?_)
                  refine z_iaV (n := 3456) (zT S5 (by decide) rfl) (zN S5 (by decide) rfl) (by omega) (zG_a F6 (by decide) (fun c => c)) ?_
                  generalize ex96 : ez_I h 89 x95.toInt.toNat = x96
                  have rx96 := z_rng x96
                  refine z_go ?_
                  refine gw_skip _ ?_
                  refine z_ri ?_
                  have t97 := congrArg Int32.toInt (f7)
                  have t98 := congrArg Int32.toInt (zG_f F6 (k := 6) (by decide))
                  have t99 := congrArg Int32.toInt (zG_f F6 (k := 7) (by decide))
                  have t100 := congrArg Int32.toInt (zG_f F6 (k := 14) (by decide))
                  have t101 := congrArg Int32.toInt (zG_f F6 (k := 15) (by decide))
                  exact K _ x96 (zG_Y F6 (fun q hq => by first | omega | exact False.elim hq)) (mI_G M F6 (fun q hq => by first | omega | exact fun c => c) (by omega)) 
            · have c47 : ¬ (0 ≤ y.toInt) := c47
              refine z_C (m := -1) rfl rfl (fun x102 ex102 => ?_)
              refine z_ri ?_
              have t103 := congrArg Int32.toInt (f7)
              have t104 := congrArg Int32.toInt (zG_f F6 (k := 6) (by decide))
              have t105 := congrArg Int32.toInt (zG_f F6 (k := 7) (by decide))
              have t106 := congrArg Int32.toInt (zG_f F6 (k := 14) (by decide))
              have t107 := congrArg Int32.toInt (zG_f F6 (k := 15) (by decide))
              exact K _ x102 (zG_Y F6 (fun q hq => by first | omega | exact False.elim hq)) (mI_G M F6 (fun q hq => by first | omega | exact fun c => c) (by omega)) 
set_option maxRecDepth 4000 in
set_option maxHeartbeats 20000000 in
theorem m_fault {E : Nat → Nat × (Nat → Int32)} {d : Nat} {Q : ez_Q} {h : ez_H} {w : Int32} (S : zSh h) (M : mI h) (K : ∀ h2 (x : Int32), zF zY h h2 → mI h2 → Q (.inl (some (.int x))) h2) : pw E d 61 0 [some (.ref 71), some (.int w)] [] h Q := by
  have gw := z_rng w
  have M6 := M.1.1
  have M7 := M.1.2.1
  have M14 := M.1.2.2.1
  have M15 := M.1.2.2.2
  have MC := M.2
  have F := zG_refl (fun k => k = 0) (fun _ => False) h
  apply ez_Wp_in
  show ez_gw _ _ _ _ _ _ (cz_61) _ _ _ _ _
  refine gw_skip _ ?_
  have r1 := z_rng (ez_I h 71 0)
  refine gw_ld rfl rfl ?_
  refine z_C (m := 0) rfl rfl (fun x2 ex2 => ?_)
  refine z_pI (zT S (by decide) rfl) (fun h3 e4 => ?_)
  have S5 := zSh_set S e4
  have F6 := zG_setF F e4 (by decide)
  have f7 : ez_I h3 71 0 = x2 := zI_eq e4
  refine gw_ld rfl rfl ?_
  refine z_b1 (fun c8 => ?_) (fun c8 => ?_)
  · have c8 : w.toInt ≠ 0 := c8
    refine gw_skip _ ?_
    refine gw_ld rfl rfl ?_
    refine z_C (m := 1) rfl rfl (fun x9 ex9 => ?_)
    refine z_b2 (fun c10 => ?_) (fun c10 => ?_)
    · have c10 : w.toInt ≠ x9.toInt := c10
      refine gw_skip _ ?_
      refine z_C (m := -1) rfl rfl (fun x11 ex11 => ?_)
      refine z_ri ?_
      have t12 := congrArg Int32.toInt (f7)
      have t13 := congrArg Int32.toInt (zG_f F6 (k := 6) (by decide))
      have t14 := congrArg Int32.toInt (zG_f F6 (k := 7) (by decide))
      have t15 := congrArg Int32.toInt (zG_f F6 (k := 14) (by decide))
      have t16 := congrArg Int32.toInt (zG_f F6 (k := 15) (by decide))
      exact K _ x11 (zG_Y F6 (fun q hq => by first | omega | exact False.elim hq)) (mI_G M F6 (fun q hq => by first | omega | exact fun c => c) (by omega)) 
    · have c10 : ¬ (w.toInt ≠ x9.toInt) := c10
      refine gw_ld rfl rfl ?_
      have r17 := z_rng (ez_I h 71 63)
      refine z_gI2 (by decide) (zT S5 (by decide) rfl) (zG_f F6 (by decide)) ?_
      refine z_go ?_
      refine gw_skip _ ?_
      refine z_ri ?_
      have t18 := congrArg Int32.toInt (f7)
      have t19 := congrArg Int32.toInt (zG_f F6 (k := 6) (by decide))
      have t20 := congrArg Int32.toInt (zG_f F6 (k := 7) (by decide))
      have t21 := congrArg Int32.toInt (zG_f F6 (k := 14) (by decide))
      have t22 := congrArg Int32.toInt (zG_f F6 (k := 15) (by decide))
      exact K _ (ez_I h 71 63) (zG_Y F6 (fun q hq => by first | omega | exact False.elim hq)) (mI_G M F6 (fun q hq => by first | omega | exact fun c => c) (by omega)) 
  · have c8 : ¬ (w.toInt ≠ 0) := c8
    refine gw_ld rfl rfl ?_
    have r23 := z_rng (ez_I h 71 62)
    refine z_gI2 (by decide) (zT S5 (by decide) rfl) (zG_f F6 (by decide)) ?_
    refine z_go ?_
    refine gw_skip _ ?_
    refine z_ri ?_
    have t24 := congrArg Int32.toInt (f7)
    have t25 := congrArg Int32.toInt (zG_f F6 (k := 6) (by decide))
    have t26 := congrArg Int32.toInt (zG_f F6 (k := 7) (by decide))
    have t27 := congrArg Int32.toInt (zG_f F6 (k := 14) (by decide))
    have t28 := congrArg Int32.toInt (zG_f F6 (k := 15) (by decide))
    exact K _ (ez_I h 71 62) (zG_Y F6 (fun q hq => by first | omega | exact False.elim hq)) (mI_G M F6 (fun q hq => by first | omega | exact fun c => c) (by omega)) 
set_option maxRecDepth 4000 in
set_option maxHeartbeats 20000000 in
theorem m_output {E : Nat → Nat × (Nat → Int32)} {d : Nat} {Q : ez_Q} {h : ez_H} {i : Int32} (S : zSh h) (M : mI h) (K : ∀ h2 (x : Int32), zF zY h h2 → mI h2 → Q (.inl (some (.int x))) h2) : pw E d 62 0 [some (.ref 71), some (.int i)] [] h Q := by
  have gi := z_rng i
  have M6 := M.1.1
  have M7 := M.1.2.1
  have M14 := M.1.2.2.1
  have M15 := M.1.2.2.2
  have MC := M.2
  have F := zG_refl (fun k => k = 0) (fun _ => False) h
  apply ez_Wp_in
  show ez_gw _ _ _ _ _ _ (cz_62) _ _ _ _ _
  refine gw_skip _ ?_
  have r1 := z_rng (ez_I h 71 0)
  refine gw_ld rfl rfl ?_
  refine z_C (m := 0) rfl rfl (fun x2 ex2 => ?_)
  refine z_pI (zT S (by decide) rfl) (fun h3 e4 => ?_)
  have S5 := zSh_set S e4
  have F6 := zG_setF F e4 (by decide)
  have f7 : ez_I h3 71 0 = x2 := zI_eq e4
  refine gw_ld rfl rfl ?_
  refine z_b1 (fun c8 => ?_) (fun c8 => ?_)
  · have c8 : i.toInt < 0 := c8
    refine gw_skip _ ?_
    refine z_C (m := -1) rfl rfl (fun x9 ex9 => ?_)
    refine z_ri ?_
    have t10 := congrArg Int32.toInt (f7)
    have t11 := congrArg Int32.toInt (zG_f F6 (k := 6) (by decide))
    have t12 := congrArg Int32.toInt (zG_f F6 (k := 7) (by decide))
    have t13 := congrArg Int32.toInt (zG_f F6 (k := 14) (by decide))
    have t14 := congrArg Int32.toInt (zG_f F6 (k := 15) (by decide))
    exact K _ x9 (zG_Y F6 (fun q hq => by first | omega | exact False.elim hq)) (mI_G M F6 (fun q hq => by first | omega | exact fun c => c) (by omega)) 
  · have c8 : ¬ (i.toInt < 0) := c8
    refine gw_ld rfl rfl ?_
    refine gw_ld rfl rfl ?_
    have r15 := z_rng (ez_I h 71 7)
    refine z_gI2 (by decide) (zT S5 (by decide) rfl) (zG_f F6 (by decide)) ?_
    refine z_b2 (fun c16 => ?_) (fun c16 => ?_)
    · have c16 : ((ez_I h 71 7)).toInt ≤ i.toInt := c16
      refine gw_skip _ ?_
      refine z_C (m := -1) rfl rfl (fun x17 ex17 => ?_)
      refine z_ri ?_
      have t18 := congrArg Int32.toInt (f7)
      have t19 := congrArg Int32.toInt (zG_f F6 (k := 6) (by decide))
      have t20 := congrArg Int32.toInt (zG_f F6 (k := 7) (by decide))
      have t21 := congrArg Int32.toInt (zG_f F6 (k := 14) (by decide))
      have t22 := congrArg Int32.toInt (zG_f F6 (k := 15) (by decide))
      exact K _ x17 (zG_Y F6 (fun q hq => by first | omega | exact False.elim hq)) (mI_G M F6 (fun q hq => by first | omega | exact fun c => c) (by omega)) 
    · have c16 : ¬ (((ez_I h 71 7)).toInt ≤ i.toInt) := c16
      refine gw_ld rfl rfl ?_
      refine z_gR (q := 73) (zT S5 (by decide) rfl) (zRf S5 (by decide) (by decide) rfl) (by decide) ?_
      refine gw_ld rfl rfl ?_
      refine z_baV (n := 6200) (zT S5 (by decide) rfl) (zN S5 (by decide) rfl) (by omega) (zG_a F6 (by decide) (fun c => c)) ?_
      generalize ex23 : ez_I h 73 i.toInt.toNat = x23
      have rx23 := z_rng x23
      refine z_C (m := 255) rfl rfl (fun x24 ex24 => ?_)
      refine z_and (fun x25 ex25 ux25 wx25 => ?_)
      have rx25 := z_rng x25
      replace ux25 := ux25 (by omega)
      clear wx25
      refine z_go ?_
      refine gw_skip _ ?_
      refine z_ri ?_
      have t26 := congrArg Int32.toInt (f7)
      have t27 := congrArg Int32.toInt (zG_f F6 (k := 6) (by decide))
      have t28 := congrArg Int32.toInt (zG_f F6 (k := 7) (by decide))
      have t29 := congrArg Int32.toInt (zG_f F6 (k := 14) (by decide))
      have t30 := congrArg Int32.toInt (zG_f F6 (k := 15) (by decide))
      exact K _ x25 (zG_Y F6 (fun q hq => by first | omega | exact False.elim hq)) (mI_G M F6 (fun q hq => by first | omega | exact fun c => c) (by omega)) 
set_option maxRecDepth 4000 in
set_option maxHeartbeats 20000000 in
theorem m_length {E : Nat → Nat × (Nat → Int32)} {d : Nat} {Q : ez_Q} {h : ez_H} {y : Int32} (S : zSh h) (M : mI h) (K : ∀ h2 (x : Int32), zF zY h h2 → mI h2 → (x = if 0 ≤ y.toInt ∧ y.toInt < 64 then ez_I h 125 y.toInt.toNat else -1) → Q (.inl (some (.int x))) h2) : pw E d 65 0 [some (.ref 71), some (.int y)] [] h Q := by
  have gy := z_rng y
  have M6 := M.1.1
  have M7 := M.1.2.1
  have M14 := M.1.2.2.1
  have M15 := M.1.2.2.2
  have MC := M.2
  have F := zG_refl (fun k => k = 0) (fun _ => False) h
  apply ez_Wp_in
  show ez_gw _ _ _ _ _ _ (cz_65) _ _ _ _ _
  refine gw_skip _ ?_
  have r1 := z_rng (ez_I h 71 0)
  refine gw_ld rfl rfl ?_
  refine z_C (m := 0) rfl rfl (fun x2 ex2 => ?_)
  refine z_pI (zT S (by decide) rfl) (fun h3 e4 => ?_)
  have S5 := zSh_set S e4
  have F6 := zG_setF F e4 (by decide)
  have f7 : ez_I h3 71 0 = x2 := zI_eq e4
  refine gw_ld rfl rfl ?_
  refine z_b1 (fun c8 => ?_) (fun c8 => ?_)
  · have c8 : y.toInt < 0 := c8
    refine gw_skip _ ?_
    refine z_C (m := -1) rfl rfl (fun x9 ex9 => ?_)
    refine z_ri ?_
    have t10 := congrArg Int32.toInt (f7)
    have t11 := congrArg Int32.toInt (zG_f F6 (k := 6) (by decide))
    have t12 := congrArg Int32.toInt (zG_f F6 (k := 7) (by decide))
    have t13 := congrArg Int32.toInt (zG_f F6 (k := 14) (by decide))
    have t14 := congrArg Int32.toInt (zG_f F6 (k := 15) (by decide))
    exact K _ x9 (zG_Y F6 (fun q hq => by first | omega | exact False.elim hq)) (mI_G M F6 (fun q hq => by first | omega | exact fun c => c) (by omega)) (by first | (rw [if_pos (by omega)]; first | rfl | assumption | (symm; assumption)) | (rw [if_neg (by omega)]; exact z_inj (by assumption)))
  · have c8 : ¬ (y.toInt < 0) := c8
    refine gw_ld rfl rfl ?_
    refine z_C (m := 64) rfl rfl (fun x15 ex15 => ?_)
    refine z_b2 (fun c16 => ?_) (fun c16 => ?_)
    · have c16 : x15.toInt ≤ y.toInt := c16
      refine gw_skip _ ?_
      refine z_C (m := -1) rfl rfl (fun x17 ex17 => ?_)
      refine z_ri ?_
      have t18 := congrArg Int32.toInt (f7)
      have t19 := congrArg Int32.toInt (zG_f F6 (k := 6) (by decide))
      have t20 := congrArg Int32.toInt (zG_f F6 (k := 7) (by decide))
      have t21 := congrArg Int32.toInt (zG_f F6 (k := 14) (by decide))
      have t22 := congrArg Int32.toInt (zG_f F6 (k := 15) (by decide))
      exact K _ x17 (zG_Y F6 (fun q hq => by first | omega | exact False.elim hq)) (mI_G M F6 (fun q hq => by first | omega | exact fun c => c) (by omega)) (by first | (rw [if_pos (by omega)]; first | rfl | assumption | (symm; assumption)) | (rw [if_neg (by omega)]; exact z_inj (by assumption)))
    · have c16 : ¬ (x15.toInt ≤ y.toInt) := c16
      refine gw_ld rfl rfl ?_
      refine z_gR (q := 125) (zT S5 (by decide) rfl) (zRf S5 (by decide) (by decide) rfl) (by decide) ?_
      refine gw_ld rfl rfl ?_
      refine z_iaV (n := 64) (zT S5 (by decide) rfl) (zN S5 (by decide) rfl) (by omega) (zG_a F6 (by decide) (fun c => c)) ?_
      generalize ex23 : ez_I h 125 y.toInt.toNat = x23
      have rx23 := z_rng x23
      refine z_go ?_
      refine gw_skip _ ?_
      refine z_ri ?_
      have t24 := congrArg Int32.toInt (f7)
      have t25 := congrArg Int32.toInt (zG_f F6 (k := 6) (by decide))
      have t26 := congrArg Int32.toInt (zG_f F6 (k := 7) (by decide))
      have t27 := congrArg Int32.toInt (zG_f F6 (k := 14) (by decide))
      have t28 := congrArg Int32.toInt (zG_f F6 (k := 15) (by decide))
      exact K _ x23 (zG_Y F6 (fun q hq => by first | omega | exact False.elim hq)) (mI_G M F6 (fun q hq => by first | omega | exact fun c => c) (by omega)) (by first | (rw [if_pos (by omega)]; first | rfl | assumption | (symm; assumption)) | (rw [if_neg (by omega)]; exact z_inj (by assumption)))
set_option maxRecDepth 4000 in
set_option maxHeartbeats 20000000 in
theorem m_about {E : Nat → Nat × (Nat → Int32)} {d : Nat} {Q : ez_Q} {h : ez_H} {w : Int32} (S : zSh h) (M : mI h) (K : ∀ h2 (x : Int32), zF zY h h2 → mI h2 → Q (.inl (some (.int x))) h2) : pw E d 66 0 [some (.ref 71), some (.int w)] [] h Q := by
  have gw := z_rng w
  have M6 := M.1.1
  have M7 := M.1.2.1
  have M14 := M.1.2.2.1
  have M15 := M.1.2.2.2
  have MC := M.2
  have F := zG_refl (fun k => k = 0) (fun _ => False) h
  apply ez_Wp_in
  show ez_gw _ _ _ _ _ _ (cz_66) _ _ _ _ _
  refine gw_skip _ ?_
  have r1 := z_rng (ez_I h 71 0)
  refine gw_ld rfl rfl ?_
  refine z_C (m := 0) rfl rfl (fun x2 ex2 => ?_)
  refine z_pI (zT S (by decide) rfl) (fun h3 e4 => ?_)
  have S5 := zSh_set S e4
  have F6 := zG_setF F e4 (by decide)
  have f7 : ez_I h3 71 0 = x2 := zI_eq e4
  refine gw_ld rfl rfl ?_
  refine z_b1 (fun c8 => ?_) (fun c8 => ?_)
  · have c8 : w.toInt ≠ 0 := c8
    refine gw_skip _ ?_
    refine gw_ld rfl rfl ?_
    refine z_C (m := 1) rfl rfl (fun x9 ex9 => ?_)
    refine z_b2 (fun c10 => ?_) (fun c10 => ?_)
    · have c10 : w.toInt ≠ x9.toInt := c10
      refine gw_skip _ ?_
      refine z_C (m := -1) rfl rfl (fun x11 ex11 => ?_)
      refine z_ri ?_
      have t12 := congrArg Int32.toInt (f7)
      have t13 := congrArg Int32.toInt (zG_f F6 (k := 6) (by decide))
      have t14 := congrArg Int32.toInt (zG_f F6 (k := 7) (by decide))
      have t15 := congrArg Int32.toInt (zG_f F6 (k := 14) (by decide))
      have t16 := congrArg Int32.toInt (zG_f F6 (k := 15) (by decide))
      exact K _ x11 (zG_Y F6 (fun q hq => by first | omega | exact False.elim hq)) (mI_G M F6 (fun q hq => by first | omega | exact fun c => c) (by omega)) 
    · have c10 : ¬ (w.toInt ≠ x9.toInt) := c10
      refine gw_ld rfl rfl ?_
      have r17 := z_rng (ez_I h 71 7)
      refine z_gI2 (by decide) (zT S5 (by decide) rfl) (zG_f F6 (by decide)) ?_
      refine z_go ?_
      refine gw_skip _ ?_
      refine z_ri ?_
      have t18 := congrArg Int32.toInt (f7)
      have t19 := congrArg Int32.toInt (zG_f F6 (k := 6) (by decide))
      have t20 := congrArg Int32.toInt (zG_f F6 (k := 7) (by decide))
      have t21 := congrArg Int32.toInt (zG_f F6 (k := 14) (by decide))
      have t22 := congrArg Int32.toInt (zG_f F6 (k := 15) (by decide))
      exact K _ (ez_I h 71 7) (zG_Y F6 (fun q hq => by first | omega | exact False.elim hq)) (mI_G M F6 (fun q hq => by first | omega | exact fun c => c) (by omega)) 
  · have c8 : ¬ (w.toInt ≠ 0) := c8
    refine gw_ld rfl rfl ?_
    have r23 := z_rng (ez_I h 71 6)
    refine z_gI2 (by decide) (zT S5 (by decide) rfl) (zG_f F6 (by decide)) ?_
    refine z_go ?_
    refine gw_skip _ ?_
    refine z_ri ?_
    have t24 := congrArg Int32.toInt (f7)
    have t25 := congrArg Int32.toInt (zG_f F6 (k := 6) (by decide))
    have t26 := congrArg Int32.toInt (zG_f F6 (k := 7) (by decide))
    have t27 := congrArg Int32.toInt (zG_f F6 (k := 14) (by decide))
    have t28 := congrArg Int32.toInt (zG_f F6 (k := 15) (by decide))
    exact K _ (ez_I h 71 6) (zG_Y F6 (fun q hq => by first | omega | exact False.elim hq)) (mI_G M F6 (fun q hq => by first | omega | exact fun c => c) (by omega)) 
