/-! PRINTED by wip/p17/con10.py: contracts of the model, unpacking -/
set_option maxRecDepth 4000 in
set_option maxHeartbeats 20000000 in
theorem m_rest {E : Nat → Nat × (Nat → Int32)} {d : Nat} {Q : ez_Q} {h : ez_H} {y : Int32} (S : zSh h)  (K : ∀ x : Int32, (0 ≤ x.toInt ∧ x.toInt ≤ 7 ∧ (y.toInt ≠ 16 → y.toInt ≠ 17 → y.toInt ≠ 18 → x.toInt = 0)) → x.toInt = (if y.toInt = 16 then 2 else if y.toInt = 17 then 3 else if y.toInt = 18 then 7 else 0) → Q (.inl (some (.int x))) h) : pw E d 43 0 [some (.int y)] [] h Q := by
  have gy := z_rng y
  have F := zG_refl (fun _ => False) (fun _ => False) h
  apply ez_Wp_in
  show ez_gw _ _ _ _ _ _ (cz_43) _ _ _ _ _
  refine gw_skip _ ?_
  refine gw_ld rfl rfl ?_
  refine z_C (m := 16) rfl rfl (fun x1 ex1 => ?_)
  refine z_b2 (fun c2 => ?_) (fun c2 => ?_)
  · have c2 : y.toInt ≠ x1.toInt := c2
    refine gw_skip _ ?_
    refine gw_ld rfl rfl ?_
    refine z_C (m := 17) rfl rfl (fun x3 ex3 => ?_)
    refine z_b2 (fun c4 => ?_) (fun c4 => ?_)
    · have c4 : y.toInt ≠ x3.toInt := c4
      refine gw_skip _ ?_
      refine gw_ld rfl rfl ?_
      refine z_C (m := 18) rfl rfl (fun x5 ex5 => ?_)
      refine z_b2 (fun c6 => ?_) (fun c6 => ?_)
      · have c6 : y.toInt ≠ x5.toInt := c6
        refine gw_skip _ ?_
        refine z_C (m := 0) rfl rfl (fun x7 ex7 => ?_)
        refine z_ri ?_
        exact K x7 (by omega) (by split <;> (try split) <;> (try split) <;> omega)
      · have c6 : ¬ (y.toInt ≠ x5.toInt) := c6
        refine z_C (m := 7) rfl rfl (fun x8 ex8 => ?_)
        refine z_go ?_
        refine gw_skip _ ?_
        refine z_ri ?_
        exact K x8 (by omega) (by split <;> (try split) <;> (try split) <;> omega)
    · have c4 : ¬ (y.toInt ≠ x3.toInt) := c4
      refine z_C (m := 3) rfl rfl (fun x9 ex9 => ?_)
      refine z_go ?_
      refine gw_skip _ ?_
      refine z_ri ?_
      exact K x9 (by omega) (by split <;> (try split) <;> (try split) <;> omega)
  · have c2 : ¬ (y.toInt ≠ x1.toInt) := c2
    refine z_C (m := 2) rfl rfl (fun x10 ex10 => ?_)
    refine z_go ?_
    refine gw_skip _ ?_
    refine z_ri ?_
    exact K x10 (by omega) (by split <;> (try split) <;> (try split) <;> omega)
set_option maxRecDepth 4000 in
set_option maxHeartbeats 20000000 in
theorem m_uStored_L1 {E : Nat → Nat × (Nat → Int32)} {d : Nat} {Q : ez_Q} {h : ez_H}  (S : zSh h) (M6 : 0 ≤ (ez_I h 71 6).toInt ∧ (ez_I h 71 6).toInt ≤ 6000) (hb : 0 ≤ (ez_I h 71 59).toInt ∧ (ez_I h 71 59).toInt ≤ 8 * (ez_I h 71 6).toInt) (hf : 0 ≤ (ez_I h 71 61).toInt) (hg : 0 ≤ (ez_I h 71 60).toInt ∧ (ez_I h 71 60).toInt ≤ 6000) (K : ∀ h2, zG (fun k => k = 59 ∨ k = 60 ∨ k = 61) (fun q => q = 76) h h2 → (0 ≤ (ez_I h2 71 59).toInt ∧ (ez_I h 71 59).toInt ≤ (ez_I h2 71 59).toInt ∧ (ez_I h2 71 59).toInt ≤ 8 * (ez_I h 71 6).toInt ∧ 0 ≤ (ez_I h2 71 61).toInt ∧ ((ez_I h2 71 61).toInt = 0 → (ez_I h 71 61).toInt = 0) ∧ 0 ≤ (ez_I h2 71 60).toInt ∧ (ez_I h2 71 60).toInt ≤ 6000) → Q (.inl none) h2) : ∀ N : Nat, (∀ (h2 : ez_H) (n : Int32) (m : Int32) (i : Int32) (l4 : Option Value) , zG (fun k => k = 59 ∨ k = 60 ∨ k = 61) (fun q => q = 76) h h2 → (0 ≤ i.toInt ∧ 0 ≤ (ez_I h2 71 59).toInt ∧ (ez_I h 71 59).toInt ≤ (ez_I h2 71 59).toInt ∧ (ez_I h2 71 59).toInt ≤ 8 * (ez_I h 71 6).toInt ∧ 0 ≤ (ez_I h2 71 61).toInt ∧ ((ez_I h2 71 61).toInt = 0 → (ez_I h 71 61).toInt = 0) ∧ 0 ≤ (ez_I h2 71 60).toInt ∧ (ez_I h2 71 60).toInt ≤ 6000) → (2147483647 - i.toInt) < (N : Int) → pw E (d + 2) 57 60 [some (.ref 71), some (.int n), some (.int m), some (.int i), l4] [] h2 Q) := by
  intro N
  induction N with
  | zero => exact fun h2 n m i l4  F hinv  hm => absurd hm (by have w_n := z_rng n; have w_m := z_rng m; have w_i := z_rng i; omega)
  | succ N ih =>
    refine fun h2 n m i l4  F hinv  hm => ?_
    · skip
      have w_n := z_rng n
      have w_m := z_rng m
      have w_i := z_rng i
      have S2 := zG_sh F S
      apply ez_Wp_in
      show ez_gw _ _ _ _ _ _ (cz_57) _ _ _ _ _
      refine gw_skip _ ?_
      have r1 := z_rng (ez_I h2 71 59)
      have r2 := z_rng (ez_I h2 71 60)
      have r3 := z_rng (ez_I h2 71 61)
      refine gw_ld rfl rfl ?_
      refine gw_ld rfl rfl ?_
      refine z_b2 (fun c4 => ?_) (fun c4 => ?_)
      · have c4 : n.toInt ≤ i.toInt := c4
        refine gw_skip _ ?_
        refine z_rv ?_
        exact K _ F (by omega)
      · have c4 : ¬ (n.toInt ≤ i.toInt) := c4
        refine gw_ld rfl rfl ?_
        refine z_gI2 (by decide) (zT S2 (by decide) rfl) (rfl) ?_
        refine z_b1 (fun c5 => ?_) (fun c5 => ?_)
        · have c5 : ((ez_I h2 71 61)).toInt ≠ 0 := c5
          refine gw_skip _ ?_
          refine z_rv ?_
          exact K _ F (by omega)
        · have c5 : ¬ (((ez_I h2 71 61)).toInt ≠ 0) := c5
          refine gw_ld rfl rfl ?_
          refine z_C (m := 8) rfl rfl (fun x6 ex6 => ?_)
          refine z_cl rfl rfl rfl rfl rfl rfl rfl rfl rfl rfl rfl (zT S2 (by decide) rfl) ?_
          refine m_tb S2 (n := x6) (by rw [zG_f F (k := 6) (by decide)]; exact M6) (by rw [show ez_I h2 71 6 = ez_I h 71 6 from zG_f F (by decide)]; omega) (by omega) (by omega) (fun h7 x12 F8 k9 k10 k11 => ?_)
          have rx12 := z_rng x12
          rw [show ez_I h2 71 6 = ez_I h 71 6 from zG_f F (by decide)] at k10
          have S13 := zG_sh F8 S2
          have F14 := zG_tr F (zG_mono F8 (fun k hk => by first | omega | exact False.elim hk) (fun k hk => by first | omega | exact False.elim hk))
          have r15 := z_rng (ez_I h7 71 59)
          have f16 : ez_I h7 71 60 = (ez_I h2 71 60) := (zG_f F8 (by decide)).trans (rfl)
          have r17 := z_rng (ez_I h7 71 61)
          replace k9 := And.intro k9.1 (z_pow (m := 8) k9.2 (by omega))
          have : (2 : Int) ^ 8 = 256 := rfl
          refine gw_st rfl rfl rfl ?_
          show ez_gw _ _ _ _ _ _ _ _ [some (.ref 71), some (.int n), some (.int m), some (.int i), some (.int x12)] _ _ _
          refine gw_ld rfl rfl ?_
          refine z_gI2 (by decide) (zT S13 (by decide) rfl) (rfl) ?_
          refine z_b1 (fun c18 => ?_) (fun c18 => ?_)
          · have c18 : ((ez_I h7 71 61)).toInt ≠ 0 := c18
            refine gw_skip _ ?_
            refine z_inc rfl (by rw [show (1 : Int32).toInt = 1 from rfl]; omega) (fun x19 ex19 => ?_)
            rw [show (1 : Int32).toInt = 1 from rfl] at ex19
            show ez_gw _ _ _ _ _ _ _ _ [some (.ref 71), some (.int n), some (.int m), some (.int x19), some (.int x12)] _ _ _
            refine z_go ?_
            have t20 := congrArg Int32.toInt (f16)
            exact ih h7 n m x19 (some (.int x12)) F14 (by omega)  (by omega)
          · have c18 : ¬ (((ez_I h7 71 61)).toInt ≠ 0) := c18
            refine gw_ld rfl rfl ?_
            refine gw_ld rfl rfl ?_
            have t21 := congrArg Int32.toInt (f16)
            refine z_cl rfl rfl rfl rfl rfl rfl rfl rfl rfl rfl rfl (zT S13 (by decide) rfl) ?_
            refine m_give S13 (n := x12) (by omega) (by omega) (fun h22  F23 k24 => ?_)
            have S25 := zG_sh F23 S13
            have F26 := zG_tr F14 (zG_mono F23 (fun k hk => by first | omega | exact False.elim hk) (fun k hk => by first | omega | exact False.elim hk))
            have f27 : ez_I h22 71 59 = (ez_I h7 71 59) := (zG_f F23 (by decide)).trans (rfl)
            have r28 := z_rng (ez_I h22 71 60)
            have r29 := z_rng (ez_I h22 71 61)
            refine z_inc rfl (by rw [show (1 : Int32).toInt = 1 from rfl]; omega) (fun x30 ex30 => ?_)
            rw [show (1 : Int32).toInt = 1 from rfl] at ex30
            show ez_gw _ _ _ _ _ _ _ _ [some (.ref 71), some (.int n), some (.int m), some (.int x30), some (.int x12)] _ _ _
            refine z_go ?_
            have t31 := congrArg Int32.toInt (f27)
            exact ih h22 n m x30 (some (.int x12)) F26 (by omega)  (by omega)
set_option maxRecDepth 4000 in
set_option maxHeartbeats 20000000 in
theorem m_uStored_L0 {E : Nat → Nat × (Nat → Int32)} {d : Nat} {Q : ez_Q} {h : ez_H}  (S : zSh h) (M6 : 0 ≤ (ez_I h 71 6).toInt ∧ (ez_I h 71 6).toInt ≤ 6000) (hb : 0 ≤ (ez_I h 71 59).toInt ∧ (ez_I h 71 59).toInt ≤ 8 * (ez_I h 71 6).toInt) (hf : 0 ≤ (ez_I h 71 61).toInt) (hg : 0 ≤ (ez_I h 71 60).toInt ∧ (ez_I h 71 60).toInt ≤ 6000) (K : ∀ h2, zG (fun k => k = 59 ∨ k = 60 ∨ k = 61) (fun q => q = 76) h h2 → (0 ≤ (ez_I h2 71 59).toInt ∧ (ez_I h 71 59).toInt ≤ (ez_I h2 71 59).toInt ∧ (ez_I h2 71 59).toInt ≤ 8 * (ez_I h 71 6).toInt ∧ 0 ≤ (ez_I h2 71 61).toInt ∧ ((ez_I h2 71 61).toInt = 0 → (ez_I h 71 61).toInt = 0) ∧ 0 ≤ (ez_I h2 71 60).toInt ∧ (ez_I h2 71 60).toInt ≤ 6000) → Q (.inl none) h2) : ∀ N : Nat, (∀ (h2 : ez_H) (l1 : Option Value) (l2 : Option Value) (l3 : Option Value) (l4 : Option Value) , zG (fun k => k = 59 ∨ k = 60 ∨ k = 61) (fun q => q = 76) h h2 → (0 ≤ (ez_I h2 71 59).toInt ∧ (ez_I h 71 59).toInt ≤ (ez_I h2 71 59).toInt ∧ (ez_I h2 71 59).toInt ≤ 8 * (ez_I h 71 6).toInt ∧ 0 ≤ (ez_I h2 71 61).toInt ∧ ((ez_I h2 71 61).toInt = 0 → (ez_I h 71 61).toInt = 0) ∧ 0 ≤ (ez_I h2 71 60).toInt ∧ (ez_I h2 71 60).toInt ≤ 6000 ∧ (ez_I h2 71 61).toInt = (ez_I h 71 61).toInt ∧ (ez_I h2 71 60).toInt = (ez_I h 71 60).toInt) → (50000 - (ez_I h2 71 59).toInt) < (N : Int) → pw E (d + 2) 57 0 [some (.ref 71), l1, l2, l3, l4] [] h2 Q) := by
  intro N
  induction N with
  | zero => exact fun h2 l1 l2 l3 l4  F hinv  hm => absurd hm (by omega)
  | succ N ih =>
    refine fun h2 l1 l2 l3 l4  F hinv  hm => ?_
    · skip
      have S2 := zG_sh F S
      apply ez_Wp_in
      show ez_gw _ _ _ _ _ _ (cz_57) _ _ _ _ _
      refine gw_skip _ ?_
      have r1 := z_rng (ez_I h2 71 59)
      have r2 := z_rng (ez_I h2 71 60)
      have r3 := z_rng (ez_I h2 71 61)
      refine gw_ld rfl rfl ?_
      refine z_gI2 (by decide) (zT S2 (by decide) rfl) (rfl) ?_
      refine z_C (m := 8) rfl rfl (fun x4 ex4 => ?_)
      refine z_rmP (c := 8) ex4 (by decide) (by omega) (fun x5 ex5 => ?_)
      refine z_b1 (fun c6 => ?_) (fun c6 => ?_)
      · have c6 : x5.toInt = 0 := c6
        refine gw_skip _ ?_
        refine gw_ld rfl rfl ?_
        refine z_C (m := 16) rfl rfl (fun x7 ex7 => ?_)
        refine z_cl rfl rfl rfl rfl rfl rfl rfl rfl rfl rfl rfl (zT S2 (by decide) rfl) ?_
        refine m_tb S2 (n := x7) (by rw [zG_f F (k := 6) (by decide)]; exact M6) (by rw [show ez_I h2 71 6 = ez_I h 71 6 from zG_f F (by decide)]; omega) (by omega) (by omega) (fun h8 x13 F9 k10 k11 k12 => ?_)
        have rx13 := z_rng x13
        rw [show ez_I h2 71 6 = ez_I h 71 6 from zG_f F (by decide)] at k11
        have S14 := zG_sh F9 S2
        have F15 := zG_tr F (zG_mono F9 (fun k hk => by first | omega | exact False.elim hk) (fun k hk => by first | omega | exact False.elim hk))
        have r16 := z_rng (ez_I h8 71 59)
        have f17 : ez_I h8 71 60 = (ez_I h2 71 60) := (zG_f F9 (by decide)).trans (rfl)
        have r18 := z_rng (ez_I h8 71 61)
        replace k10 := And.intro k10.1 (z_pow (m := 16) k10.2 (by omega))
        have : (2 : Int) ^ 16 = 65536 := rfl
        refine gw_st rfl rfl rfl ?_
        show ez_gw _ _ _ _ _ _ _ _ [some (.ref 71), some (.int x13), l2, l3, l4] _ _ _
        refine gw_ld rfl rfl ?_
        refine z_C (m := 16) rfl rfl (fun x19 ex19 => ?_)
        have t20 := congrArg Int32.toInt (f17)
        refine z_cl rfl rfl rfl rfl rfl rfl rfl rfl rfl rfl rfl (zT S14 (by decide) rfl) ?_
        refine m_tb S14 (n := x19) (by rw [zG_f F15 (k := 6) (by decide)]; exact M6) (by rw [show ez_I h8 71 6 = ez_I h 71 6 from zG_f F15 (by decide)]; omega) (by omega) (by omega) (fun h21 x26 F22 k23 k24 k25 => ?_)
        have rx26 := z_rng x26
        rw [show ez_I h8 71 6 = ez_I h 71 6 from zG_f F15 (by decide)] at k24
        have S27 := zG_sh F22 S14
        have F28 := zG_tr F15 (zG_mono F22 (fun k hk => by first | omega | exact False.elim hk) (fun k hk => by first | omega | exact False.elim hk))
        have r29 := z_rng (ez_I h21 71 59)
        have f30 : ez_I h21 71 60 = (ez_I h2 71 60) := (zG_f F22 (by decide)).trans (f17)
        have r31 := z_rng (ez_I h21 71 61)
        replace k23 := And.intro k23.1 (z_pow (m := 16) k23.2 (by omega))
        have : (2 : Int) ^ 16 = 65536 := rfl
        refine gw_st rfl rfl rfl ?_
        show ez_gw _ _ _ _ _ _ _ _ [some (.ref 71), some (.int x13), some (.int x26), l3, l4] _ _ _
        refine gw_ld rfl rfl ?_
        refine z_gI2 (by decide) (zT S27 (by decide) rfl) (rfl) ?_
        refine z_b1 (fun c32 => ?_) (fun c32 => ?_)
        · have c32 : ((ez_I h21 71 61)).toInt ≠ 0 := c32
          refine gw_skip _ ?_
          refine z_C (m := 0) rfl rfl (fun x33 ex33 => ?_)
          refine gw_st rfl rfl rfl ?_
          show ez_gw _ _ _ _ _ _ _ _ [some (.ref 71), some (.int x13), some (.int x26), some (.int x33), l4] _ _ _
          have t34 := congrArg Int32.toInt (f30)
          exact ez_Wp_at ((m_uStored_L1  S M6 hb hf hg K (((2147483647 - x33.toInt)).toNat + 1)) h21 x13 x26 x33 (l4) F28 (by omega)  (by omega)) rfl
        · have c32 : ¬ (((ez_I h21 71 61)).toInt ≠ 0) := c32
          refine gw_ld rfl rfl ?_
          refine gw_ld rfl rfl ?_
          refine z_2 rfl (fun x35 ex35 => ?_)
          have rx35 := z_rng x35
          refine z_C (m := 65535) rfl rfl (fun x36 ex36 => ?_)
          refine z_b2 (fun c37 => ?_) (fun c37 => ?_)
          · have c37 : x35.toInt = x36.toInt := c37
            refine gw_skip _ ?_
            refine z_C (m := 0) rfl rfl (fun x38 ex38 => ?_)
            refine gw_st rfl rfl rfl ?_
            show ez_gw _ _ _ _ _ _ _ _ [some (.ref 71), some (.int x13), some (.int x26), some (.int x38), l4] _ _ _
            have t39 := congrArg Int32.toInt (f30)
            exact ez_Wp_at ((m_uStored_L1  S M6 hb hf hg K (((2147483647 - x38.toInt)).toNat + 1)) h21 x13 x26 x38 (l4) F28 (by omega)  (by omega)) rfl
          · have c37 : ¬ (x35.toInt = x36.toInt) := c37
            refine gw_ld rfl rfl ?_
            refine z_C (m := 3) rfl rfl (fun x40 ex40 => ?_)
            have t41 := congrArg Int32.toInt (f30)
            refine z_cl rfl rfl rfl rfl rfl rfl rfl rfl rfl rfl rfl (zT S27 (by decide) rfl) ?_
            refine m_wrong S27 (n := x40) (by omega) (by omega) (fun h42  F43 k44 => ?_)
            have S45 := zG_sh F43 S27
            have F46 := zG_tr F28 (zG_mono F43 (fun k hk => by first | omega | exact False.elim hk) (fun k hk => by first | omega | exact False.elim hk))
            have f47 : ez_I h42 71 59 = (ez_I h21 71 59) := (zG_f F43 (by decide)).trans (rfl)
            have f48 : ez_I h42 71 60 = (ez_I h2 71 60) := (zG_f F43 (by decide)).trans (f30)
            have r49 := z_rng (ez_I h42 71 61)
            refine z_C (m := 0) rfl rfl (fun x50 ex50 => ?_)
            refine gw_st rfl rfl rfl ?_
            show ez_gw _ _ _ _ _ _ _ _ [some (.ref 71), some (.int x13), some (.int x26), some (.int x50), l4] _ _ _
            have t51 := congrArg Int32.toInt (f47)
            have t52 := congrArg Int32.toInt (f48)
            exact ez_Wp_at ((m_uStored_L1  S M6 hb hf hg K (((2147483647 - x50.toInt)).toNat + 1)) h42 x13 x26 x50 (l4) F46 (by omega)  (by omega)) rfl
      · have c6 : ¬ (x5.toInt = 0) := c6
        refine gw_ld rfl rfl ?_
        refine gw_op rfl ?_
        refine z_gI2 (by decide) (zT S2 (by decide) rfl) (rfl) ?_
        refine z_C (m := 1) rfl rfl (fun x53 ex53 => ?_)
        refine z_add (by omega) (fun x54 ex54 => ?_)
        refine z_pI (zT S2 (by decide) rfl) (fun h55 e56 => ?_)
        have S57 := zSh_set S2 e56
        have F58 := zG_setF F e56 (by decide)
        have f59 : ez_I h55 71 59 = x54 := zI_eq e56
        have f60 : ez_I h55 71 60 = (ez_I h2 71 60) := (zI_ne e56 (by decide)).trans (rfl)
        have f61 : ez_I h55 71 61 = (ez_I h2 71 61) := (zI_ne e56 (by decide)).trans (rfl)
        refine z_go ?_
        have t62 := congrArg Int32.toInt (f59)
        have t63 := congrArg Int32.toInt (f60)
        have t64 := congrArg Int32.toInt (f61)
        exact ih h55 (l1) (l2) (l3) (l4) F58 (by omega)  (by omega)
set_option maxRecDepth 4000 in
set_option maxHeartbeats 20000000 in
theorem m_uStored {E : Nat → Nat × (Nat → Int32)} {d : Nat} {Q : ez_Q} {h : ez_H}  (S : zSh h) (M6 : 0 ≤ (ez_I h 71 6).toInt ∧ (ez_I h 71 6).toInt ≤ 6000) (hb : 0 ≤ (ez_I h 71 59).toInt ∧ (ez_I h 71 59).toInt ≤ 8 * (ez_I h 71 6).toInt) (hf : 0 ≤ (ez_I h 71 61).toInt) (hg : 0 ≤ (ez_I h 71 60).toInt ∧ (ez_I h 71 60).toInt ≤ 6000) (K : ∀ h2, zG (fun k => k = 59 ∨ k = 60 ∨ k = 61) (fun q => q = 76) h h2 → (0 ≤ (ez_I h2 71 59).toInt ∧ (ez_I h 71 59).toInt ≤ (ez_I h2 71 59).toInt ∧ (ez_I h2 71 59).toInt ≤ 8 * (ez_I h 71 6).toInt ∧ 0 ≤ (ez_I h2 71 61).toInt ∧ ((ez_I h2 71 61).toInt = 0 → (ez_I h 71 61).toInt = 0) ∧ 0 ≤ (ez_I h2 71 60).toInt ∧ (ez_I h2 71 60).toInt ≤ 6000) → Q (.inl none) h2) : pw E (d + 2) 57 0 [some (.ref 71), none, none, none, none] [] h Q := by
  have F := zG_refl (fun k => k = 59 ∨ k = 60 ∨ k = 61) (fun q => q = 76) h
  apply ez_Wp_in
  show ez_gw _ _ _ _ _ _ (cz_57) _ _ _ _ _
  refine gw_skip _ ?_
  have r1 := z_rng (ez_I h 71 59)
  have r2 := z_rng (ez_I h 71 60)
  have r3 := z_rng (ez_I h 71 61)
  exact ez_Wp_at ((m_uStored_L0  S M6 hb hf hg K (((50000 - (ez_I h 71 59).toInt)).toNat + 1)) h (none) (none) (none) (none) F (by omega)  (by omega)) rfl
set_option maxRecDepth 4000 in
set_option maxHeartbeats 20000000 in
theorem m_rl_L4 {E : Nat → Nat × (Nat → Int32)} {d : Nat} {Q : ez_Q} {h : ez_H}  (S : zSh h) (M6 : 0 ≤ (ez_I h 71 6).toInt ∧ (ez_I h 71 6).toInt ≤ 6000) (hb : 0 ≤ (ez_I h 71 59).toInt ∧ (ez_I h 71 59).toInt ≤ 8 * (ez_I h 71 6).toInt) (hf : 0 ≤ (ez_I h 71 61).toInt) (MC : cC h) (K : ∀ h2, zG (fun k => k = 59 ∨ k = 61) (fun q => q = 115 ∨ 120 ≤ q ∧ q ≤ 123) h h2 → (0 ≤ (ez_I h2 71 59).toInt ∧ (ez_I h 71 59).toInt ≤ (ez_I h2 71 59).toInt ∧ (ez_I h2 71 59).toInt ≤ 8 * (ez_I h 71 6).toInt ∧ 0 ≤ (ez_I h2 71 61).toInt ∧ ((ez_I h2 71 61).toInt = 0 → (ez_I h 71 61).toInt = 0)) → ((ez_I h2 71 61).toInt = 0 → aR (ez_I h2 120) 288 0 15 ∧ aR (ez_I h2 121) 32 0 15) → Q (.inl none) h2) : ∀ N : Nat, (∀ (h2 : ez_H) (a : Int32) (b : Int32) (m : Int32) (k4 : Int32) (so : Int32) (i : Int32) (l7 : Option Value) (l8 : Option Value) (l9 : Option Value) , zG (fun k => k = 59 ∨ k = 61) (fun q => q = 115 ∨ 120 ≤ q ∧ q ≤ 123) h h2 → (257 ≤ a.toInt ∧ a.toInt ≤ 288 ∧ 1 ≤ b.toInt ∧ b.toInt ≤ 32 ∧ 4 ≤ m.toInt ∧ m.toInt ≤ 19 ∧ 0 ≤ i.toInt ∧ i.toInt ≤ 32 ∧ 0 ≤ so.toInt ∧ so.toInt ≤ 15 * i.toInt ∧ 0 ≤ (ez_I h2 71 59).toInt ∧ (ez_I h 71 59).toInt ≤ (ez_I h2 71 59).toInt ∧ (ez_I h2 71 59).toInt ≤ 8 * (ez_I h 71 6).toInt ∧ 0 ≤ (ez_I h2 71 61).toInt ∧ ((ez_I h2 71 61).toInt = 0 → (ez_I h 71 61).toInt = 0)) → aR (ez_I h2 123) (a.toInt + b.toInt).toNat 0 15 → aR (ez_I h2 120) 288 0 15 → aR (ez_I h2 121) i.toInt.toNat 0 15 → (2147483647 - i.toInt) < (N : Int) → pw E (d + 2) 58 354 [some (.ref 71), some (.int a), some (.int b), some (.int m), some (.int k4), some (.int so), some (.int i), l7, l8, l9] [] h2 Q) := by
  intro N
  induction N with
  | zero => exact fun h2 a b m k4 so i l7 l8 l9  F hinv A_t A_L A_B hm => absurd hm (by have w_a := z_rng a; have w_b := z_rng b; have w_m := z_rng m; have w_k4 := z_rng k4; have w_so := z_rng so; have w_i := z_rng i; have MC1 := MC.1; omega)
  | succ N ih =>
    refine fun h2 a b m k4 so i l7 l8 l9  F hinv A_t A_L A_B hm => ?_
    · skip
      have w_a := z_rng a
      have w_b := z_rng b
      have w_m := z_rng m
      have w_k4 := z_rng k4
      have w_so := z_rng so
      have w_i := z_rng i
      have MC1 := MC.1
      have S2 := zG_sh F S
      apply ez_Wp_in
      show ez_gw _ _ _ _ _ _ (cz_58) _ _ _ _ _
      refine gw_skip _ ?_
      have r1 := z_rng (ez_I h2 71 59)
      have r2 := z_rng (ez_I h2 71 61)
      refine gw_ld rfl rfl ?_
      refine z_C (m := 32) rfl rfl (fun x3 ex3 => ?_)
      refine z_b2 (fun c4 => ?_) (fun c4 => ?_)
      · have c4 : x3.toInt ≤ i.toInt := c4
        refine gw_skip _ ?_
        refine gw_ld rfl rfl ?_
        refine z_gR (q := 120) (zT S2 (by decide) rfl) (zRf S2 (by decide) (by decide) rfl) (by decide) ?_
        refine z_C (m := 288) rfl rfl (fun x5 ex5 => ?_)
        refine z_cl rfl rfl rfl rfl rfl rfl rfl rfl rfl rfl rfl (trivial) ?_
        refine m_isWhole S2 (n := x5) (show zA 120 288 from fun _ S => ⟨zT S (by decide) rfl, zN S (by decide) rfl⟩) (by decide) (by omega) (fun x6 k7 => ?_)
        have rx6 := z_rng x6
        refine z_b1 (fun c8 => ?_) (fun c8 => ?_)
        · have c8 : x6.toInt = 0 := c8
          refine gw_skip _ ?_
          refine gw_ld rfl rfl ?_
          refine z_C (m := 5) rfl rfl (fun x9 ex9 => ?_)
          refine z_cl rfl rfl rfl rfl rfl rfl rfl rfl rfl rfl rfl (zT S2 (by decide) rfl) ?_
          refine m_wrong S2 (n := x9) (by omega) (by omega) (fun h10  F11 k12 => ?_)
          have S13 := zG_sh F11 S2
          have F14 := zG_tr F (zG_mono F11 (fun k hk => by first | omega | exact False.elim hk) (fun k hk => by first | omega | exact False.elim hk))
          have f15 : ez_I h10 71 59 = (ez_I h2 71 59) := (zG_f F11 (by decide)).trans (rfl)
          have r16 := z_rng (ez_I h10 71 61)
          have A17 : aR (ez_I h10 123) (a.toInt + b.toInt).toNat 0 15 := by rw [zG_fn F11 123 (by decide) (by first | omega | exact fun c => c)]; exact A_t
          have A18 : aR (ez_I h10 120) 288 0 15 := by rw [zG_fn F11 120 (by decide) (by first | omega | exact fun c => c)]; exact A_L
          have A19 : aR (ez_I h10 121) i.toInt.toNat 0 15 := by rw [zG_fn F11 121 (by decide) (by first | omega | exact fun c => c)]; exact A_B
          refine z_rv ?_
          have t20 := congrArg Int32.toInt (f15)
          exact K _ F14 (by omega) (fun q => by first | exact ⟨A18, aR_le A19 (by omega)⟩ | (exfalso; omega))
        · have c8 : ¬ (x6.toInt = 0) := c8
          refine gw_ld rfl rfl ?_
          refine z_gR (q := 120) (zT S2 (by decide) rfl) (zRf S2 (by decide) (by decide) rfl) (by decide) ?_
          refine z_C (m := 256) rfl rfl (fun x21 ex21 => ?_)
          refine z_ia (n := 288) (zT S2 (by decide) rfl) (zN S2 (by decide) rfl) (by omega) ?_
          generalize ex22 : ez_I h2 120 x21.toInt.toNat = x22
          have rx22 := z_rng x22
          refine z_b1 (fun c23 => ?_) (fun c23 => ?_)
          · have c23 : x22.toInt = 0 := c23
            refine gw_skip _ ?_
            refine gw_ld rfl rfl ?_
            refine z_C (m := 5) rfl rfl (fun x24 ex24 => ?_)
            refine z_cl rfl rfl rfl rfl rfl rfl rfl rfl rfl rfl rfl (zT S2 (by decide) rfl) ?_
            refine m_wrong S2 (n := x24) (by omega) (by omega) (fun h25  F26 k27 => ?_)
            have S28 := zG_sh F26 S2
            have F29 := zG_tr F (zG_mono F26 (fun k hk => by first | omega | exact False.elim hk) (fun k hk => by first | omega | exact False.elim hk))
            have f30 : ez_I h25 71 59 = (ez_I h2 71 59) := (zG_f F26 (by decide)).trans (rfl)
            have r31 := z_rng (ez_I h25 71 61)
            have A32 : aR (ez_I h25 123) (a.toInt + b.toInt).toNat 0 15 := by rw [zG_fn F26 123 (by decide) (by first | omega | exact fun c => c)]; exact A_t
            have A33 : aR (ez_I h25 120) 288 0 15 := by rw [zG_fn F26 120 (by decide) (by first | omega | exact fun c => c)]; exact A_L
            have A34 : aR (ez_I h25 121) i.toInt.toNat 0 15 := by rw [zG_fn F26 121 (by decide) (by first | omega | exact fun c => c)]; exact A_B
            refine z_rv ?_
            have t35 := congrArg Int32.toInt (f30)
            exact K _ F29 (by omega) (fun q => by first | exact ⟨A33, aR_le A34 (by omega)⟩ | (exfalso; omega))
          · have c23 : ¬ (x22.toInt = 0) := c23
            refine gw_ld rfl rfl ?_
            refine z_C (m := 1) rfl rfl (fun x36 ex36 => ?_)
            refine z_b2 (fun c37 => ?_) (fun c37 => ?_)
            · have c37 : so.toInt ≤ x36.toInt := c37
              refine gw_skip _ ?_
              refine z_rv ?_
              exact K _ F (by omega) (fun q => by first | exact ⟨A_L, aR_le A_B (by omega)⟩ | (exfalso; omega))
            · have c37 : ¬ (so.toInt ≤ x36.toInt) := c37
              refine gw_ld rfl rfl ?_
              refine z_gR (q := 121) (zT S2 (by decide) rfl) (zRf S2 (by decide) (by decide) rfl) (by decide) ?_
              refine z_C (m := 32) rfl rfl (fun x38 ex38 => ?_)
              refine z_cl rfl rfl rfl rfl rfl rfl rfl rfl rfl rfl rfl (trivial) ?_
              refine m_isWhole S2 (n := x38) (show zA 121 32 from fun _ S => ⟨zT S (by decide) rfl, zN S (by decide) rfl⟩) (by decide) (by omega) (fun x39 k40 => ?_)
              have rx39 := z_rng x39
              refine z_b1 (fun c41 => ?_) (fun c41 => ?_)
              · have c41 : x39.toInt ≠ 0 := c41
                refine gw_skip _ ?_
                refine z_rv ?_
                exact K _ F (by omega) (fun q => by first | exact ⟨A_L, aR_le A_B (by omega)⟩ | (exfalso; omega))
              · have c41 : ¬ (x39.toInt ≠ 0) := c41
                refine gw_ld rfl rfl ?_
                refine z_C (m := 5) rfl rfl (fun x42 ex42 => ?_)
                refine z_cl rfl rfl rfl rfl rfl rfl rfl rfl rfl rfl rfl (zT S2 (by decide) rfl) ?_
                refine m_wrong S2 (n := x42) (by omega) (by omega) (fun h43  F44 k45 => ?_)
                have S46 := zG_sh F44 S2
                have F47 := zG_tr F (zG_mono F44 (fun k hk => by first | omega | exact False.elim hk) (fun k hk => by first | omega | exact False.elim hk))
                have f48 : ez_I h43 71 59 = (ez_I h2 71 59) := (zG_f F44 (by decide)).trans (rfl)
                have r49 := z_rng (ez_I h43 71 61)
                have A50 : aR (ez_I h43 123) (a.toInt + b.toInt).toNat 0 15 := by rw [zG_fn F44 123 (by decide) (by first | omega | exact fun c => c)]; exact A_t
                have A51 : aR (ez_I h43 120) 288 0 15 := by rw [zG_fn F44 120 (by decide) (by first | omega | exact fun c => c)]; exact A_L
                have A52 : aR (ez_I h43 121) i.toInt.toNat 0 15 := by rw [zG_fn F44 121 (by decide) (by first | omega | exact fun c => c)]; exact A_B
                refine z_rv ?_
                have t53 := congrArg Int32.toInt (f48)
                exact K _ F47 (by omega) (fun q => by first | exact ⟨A51, aR_le A52 (by omega)⟩ | (exfalso; omega))
      · have c4 : ¬ (x3.toInt ≤ i.toInt) := c4
        refine gw_ld rfl rfl ?_
        refine z_gR (q := 121) (zT S2 (by decide) rfl) (zRf S2 (by decide) (by decide) rfl) (by decide) ?_
        refine gw_ld rfl rfl ?_
        refine gw_ld rfl rfl ?_
        refine gw_ld rfl rfl ?_
        refine z_b2 (fun c54 => ?_) (fun c54 => ?_)
        · have c54 : b.toInt ≤ i.toInt := c54
          refine gw_skip _ ?_
          refine z_C (m := 0) rfl rfl (fun x55 ex55 => ?_)
          refine z_is (n := 32) (zT S2 (by decide) rfl) (zN S2 (by decide) rfl) (by omega) (fun h56 e57 => ?_)
          have S58 := zSh_set S2 e57
          have F59 := zG_setA F e57 (by decide) (by decide)
          have f60 : ez_I h56 71 59 = (ez_I h2 71 59) := (zI_ne e57 (by omega)).trans (rfl)
          have f61 : ez_I h56 71 61 = (ez_I h2 71 61) := (zI_ne e57 (by omega)).trans (rfl)
          have A62 : aR (ez_I h56 123) (a.toInt + b.toInt).toNat 0 15 := by rw [zI_fn e57 123 (by decide)]; exact A_t
          have A63 : aR (ez_I h56 120) 288 0 15 := by rw [zI_fn e57 120 (by decide)]; exact A_L
          have A64 : aR (ez_I h56 121) (i.toInt.toNat + 1) 0 15 := aR_ex A_B e57 (by omega) (by omega)
          refine gw_ld rfl rfl ?_
          refine gw_ld rfl rfl ?_
          refine z_gR (q := 121) (zT S58 (by decide) rfl) (zRf S58 (by decide) (by decide) rfl) (by decide) ?_
          refine gw_ld rfl rfl ?_
          refine z_ia (n := 32) (zT S58 (by decide) rfl) (zN S58 (by decide) rfl) (by omega) ?_
          generalize ex65 : ez_I h56 121 i.toInt.toNat = x65
          have rx65 := z_rng x65
          have yx65 := A64 i.toInt.toNat (by omega)
          rw [ex65] at yx65
          refine z_add (by omega) (fun x66 ex66 => ?_)
          refine gw_st rfl rfl rfl ?_
          show ez_gw _ _ _ _ _ _ _ _ [some (.ref 71), some (.int a), some (.int b), some (.int m), some (.int k4), some (.int x66), some (.int i), l7, l8, l9] _ _ _
          refine z_inc rfl (by rw [show (1 : Int32).toInt = 1 from rfl]; omega) (fun x67 ex67 => ?_)
          rw [show (1 : Int32).toInt = 1 from rfl] at ex67
          show ez_gw _ _ _ _ _ _ _ _ [some (.ref 71), some (.int a), some (.int b), some (.int m), some (.int k4), some (.int x66), some (.int x67), l7, l8, l9] _ _ _
          refine z_go ?_
          have t68 := congrArg Int32.toInt (f60)
          have t69 := congrArg Int32.toInt (f61)
          exact ih h56 a b m k4 x66 x67 (l7) (l8) (l9) F59 (by omega) A62 (aR_le A63 (by omega)) (aR_le A64 (by omega)) (by omega)
        · have c54 : ¬ (b.toInt ≤ i.toInt) := c54
          refine gw_ld rfl rfl ?_
          refine z_gR (q := 123) (zT S2 (by decide) rfl) (zRf S2 (by decide) (by decide) rfl) (by decide) ?_
          refine gw_ld rfl rfl ?_
          refine gw_ld rfl rfl ?_
          refine z_add (by omega) (fun x70 ex70 => ?_)
          refine z_ia (n := 330) (zT S2 (by decide) rfl) (zN S2 (by decide) rfl) (by omega) ?_
          generalize ex71 : ez_I h2 123 x70.toInt.toNat = x71
          have rx71 := z_rng x71
          have yx71 := A_t x70.toInt.toNat (by omega)
          rw [ex71] at yx71
          refine z_go ?_
          refine gw_skip _ ?_
          refine z_is (n := 32) (zT S2 (by decide) rfl) (zN S2 (by decide) rfl) (by omega) (fun h72 e73 => ?_)
          have S74 := zSh_set S2 e73
          have F75 := zG_setA F e73 (by decide) (by decide)
          have f76 : ez_I h72 71 59 = (ez_I h2 71 59) := (zI_ne e73 (by omega)).trans (rfl)
          have f77 : ez_I h72 71 61 = (ez_I h2 71 61) := (zI_ne e73 (by omega)).trans (rfl)
          have A78 : aR (ez_I h72 123) (a.toInt + b.toInt).toNat 0 15 := by rw [zI_fn e73 123 (by decide)]; exact A_t
          have A79 : aR (ez_I h72 120) 288 0 15 := by rw [zI_fn e73 120 (by decide)]; exact A_L
          have A80 : aR (ez_I h72 121) (i.toInt.toNat + 1) 0 15 := aR_ex A_B e73 (by omega) (by omega)
          refine gw_ld rfl rfl ?_
          refine gw_ld rfl rfl ?_
          refine z_gR (q := 121) (zT S74 (by decide) rfl) (zRf S74 (by decide) (by decide) rfl) (by decide) ?_
          refine gw_ld rfl rfl ?_
          refine z_ia (n := 32) (zT S74 (by decide) rfl) (zN S74 (by decide) rfl) (by omega) ?_
          generalize ex81 : ez_I h72 121 i.toInt.toNat = x81
          have rx81 := z_rng x81
          have yx81 := A80 i.toInt.toNat (by omega)
          rw [ex81] at yx81
          refine z_add (by omega) (fun x82 ex82 => ?_)
          refine gw_st rfl rfl rfl ?_
          show ez_gw _ _ _ _ _ _ _ _ [some (.ref 71), some (.int a), some (.int b), some (.int m), some (.int k4), some (.int x82), some (.int i), l7, l8, l9] _ _ _
          refine z_inc rfl (by rw [show (1 : Int32).toInt = 1 from rfl]; omega) (fun x83 ex83 => ?_)
          rw [show (1 : Int32).toInt = 1 from rfl] at ex83
          show ez_gw _ _ _ _ _ _ _ _ [some (.ref 71), some (.int a), some (.int b), some (.int m), some (.int k4), some (.int x82), some (.int x83), l7, l8, l9] _ _ _
          refine z_go ?_
          have t84 := congrArg Int32.toInt (f76)
          have t85 := congrArg Int32.toInt (f77)
          exact ih h72 a b m k4 x82 x83 (l7) (l8) (l9) F75 (by omega) A78 (aR_le A79 (by omega)) (aR_le A80 (by omega)) (by omega)
set_option maxRecDepth 4000 in
set_option maxHeartbeats 20000000 in
theorem m_rl_L3 {E : Nat → Nat × (Nat → Int32)} {d : Nat} {Q : ez_Q} {h : ez_H}  (S : zSh h) (M6 : 0 ≤ (ez_I h 71 6).toInt ∧ (ez_I h 71 6).toInt ≤ 6000) (hb : 0 ≤ (ez_I h 71 59).toInt ∧ (ez_I h 71 59).toInt ≤ 8 * (ez_I h 71 6).toInt) (hf : 0 ≤ (ez_I h 71 61).toInt) (MC : cC h) (K : ∀ h2, zG (fun k => k = 59 ∨ k = 61) (fun q => q = 115 ∨ 120 ≤ q ∧ q ≤ 123) h h2 → (0 ≤ (ez_I h2 71 59).toInt ∧ (ez_I h 71 59).toInt ≤ (ez_I h2 71 59).toInt ∧ (ez_I h2 71 59).toInt ≤ 8 * (ez_I h 71 6).toInt ∧ 0 ≤ (ez_I h2 71 61).toInt ∧ ((ez_I h2 71 61).toInt = 0 → (ez_I h 71 61).toInt = 0)) → ((ez_I h2 71 61).toInt = 0 → aR (ez_I h2 120) 288 0 15 ∧ aR (ez_I h2 121) 32 0 15) → Q (.inl none) h2) : ∀ N : Nat, (∀ (h2 : ez_H) (a : Int32) (b : Int32) (m : Int32) (k4 : Int32) (so : Int32) (i : Int32) (l7 : Option Value) (l8 : Option Value) (l9 : Option Value) , zG (fun k => k = 59 ∨ k = 61) (fun q => q = 115 ∨ 120 ≤ q ∧ q ≤ 123) h h2 → (257 ≤ a.toInt ∧ a.toInt ≤ 288 ∧ 1 ≤ b.toInt ∧ b.toInt ≤ 32 ∧ 4 ≤ m.toInt ∧ m.toInt ≤ 19 ∧ 0 ≤ i.toInt ∧ i.toInt ≤ 288 ∧ so.toInt = 0 ∧ 0 ≤ (ez_I h2 71 59).toInt ∧ (ez_I h 71 59).toInt ≤ (ez_I h2 71 59).toInt ∧ (ez_I h2 71 59).toInt ≤ 8 * (ez_I h 71 6).toInt ∧ 0 ≤ (ez_I h2 71 61).toInt ∧ ((ez_I h2 71 61).toInt = 0 → (ez_I h 71 61).toInt = 0)) → aR (ez_I h2 123) (a.toInt + b.toInt).toNat 0 15 → aR (ez_I h2 120) i.toInt.toNat 0 15 → (2147483647 - i.toInt) < (N : Int) → pw E (d + 2) 58 313 [some (.ref 71), some (.int a), some (.int b), some (.int m), some (.int k4), some (.int so), some (.int i), l7, l8, l9] [] h2 Q) := by
  intro N
  induction N with
  | zero => exact fun h2 a b m k4 so i l7 l8 l9  F hinv A_t A_L hm => absurd hm (by have w_a := z_rng a; have w_b := z_rng b; have w_m := z_rng m; have w_k4 := z_rng k4; have w_so := z_rng so; have w_i := z_rng i; have MC1 := MC.1; omega)
  | succ N ih =>
    refine fun h2 a b m k4 so i l7 l8 l9  F hinv A_t A_L hm => ?_
    · skip
      have w_a := z_rng a
      have w_b := z_rng b
      have w_m := z_rng m
      have w_k4 := z_rng k4
      have w_so := z_rng so
      have w_i := z_rng i
      have MC1 := MC.1
      have S2 := zG_sh F S
      apply ez_Wp_in
      show ez_gw _ _ _ _ _ _ (cz_58) _ _ _ _ _
      refine gw_skip _ ?_
      have r1 := z_rng (ez_I h2 71 59)
      have r2 := z_rng (ez_I h2 71 61)
      refine gw_ld rfl rfl ?_
      refine z_C (m := 288) rfl rfl (fun x3 ex3 => ?_)
      refine z_b2 (fun c4 => ?_) (fun c4 => ?_)
      · have c4 : x3.toInt ≤ i.toInt := c4
        refine gw_skip _ ?_
        refine z_C (m := 0) rfl rfl (fun x5 ex5 => ?_)
        refine gw_st rfl rfl rfl ?_
        show ez_gw _ _ _ _ _ _ _ _ [some (.ref 71), some (.int a), some (.int b), some (.int m), some (.int k4), some (.int so), some (.int x5), l7, l8, l9] _ _ _
        exact ez_Wp_at ((m_rl_L4  S M6 hb hf MC K (((2147483647 - x5.toInt)).toNat + 1)) h2 a b m k4 so x5 (l7) (l8) (l9) F (by omega) A_t (aR_le A_L (by omega)) ((by rw [show x5.toInt.toNat = 0 by omega]; exact aR_0 _ _ _)) (by omega)) rfl
      · have c4 : ¬ (x3.toInt ≤ i.toInt) := c4
        refine gw_ld rfl rfl ?_
        refine z_gR (q := 120) (zT S2 (by decide) rfl) (zRf S2 (by decide) (by decide) rfl) (by decide) ?_
        refine gw_ld rfl rfl ?_
        refine gw_ld rfl rfl ?_
        refine gw_ld rfl rfl ?_
        refine z_b2 (fun c6 => ?_) (fun c6 => ?_)
        · have c6 : a.toInt ≤ i.toInt := c6
          refine gw_skip _ ?_
          refine z_C (m := 0) rfl rfl (fun x7 ex7 => ?_)
          refine z_is (n := 288) (zT S2 (by decide) rfl) (zN S2 (by decide) rfl) (by omega) (fun h8 e9 => ?_)
          have S10 := zSh_set S2 e9
          have F11 := zG_setA F e9 (by decide) (by decide)
          have f12 : ez_I h8 71 59 = (ez_I h2 71 59) := (zI_ne e9 (by omega)).trans (rfl)
          have f13 : ez_I h8 71 61 = (ez_I h2 71 61) := (zI_ne e9 (by omega)).trans (rfl)
          have A14 : aR (ez_I h8 123) (a.toInt + b.toInt).toNat 0 15 := by rw [zI_fn e9 123 (by decide)]; exact A_t
          have A15 : aR (ez_I h8 120) (i.toInt.toNat + 1) 0 15 := aR_ex A_L e9 (by omega) (by omega)
          refine z_inc rfl (by rw [show (1 : Int32).toInt = 1 from rfl]; omega) (fun x16 ex16 => ?_)
          rw [show (1 : Int32).toInt = 1 from rfl] at ex16
          show ez_gw _ _ _ _ _ _ _ _ [some (.ref 71), some (.int a), some (.int b), some (.int m), some (.int k4), some (.int so), some (.int x16), l7, l8, l9] _ _ _
          refine z_go ?_
          have t17 := congrArg Int32.toInt (f12)
          have t18 := congrArg Int32.toInt (f13)
          exact ih h8 a b m k4 so x16 (l7) (l8) (l9) F11 (by omega) (aR_le A14 (by omega)) (aR_le A15 (by omega)) (by omega)
        · have c6 : ¬ (a.toInt ≤ i.toInt) := c6
          refine gw_ld rfl rfl ?_
          refine z_gR (q := 123) (zT S2 (by decide) rfl) (zRf S2 (by decide) (by decide) rfl) (by decide) ?_
          refine gw_ld rfl rfl ?_
          refine z_ia (n := 330) (zT S2 (by decide) rfl) (zN S2 (by decide) rfl) (by omega) ?_
          generalize ex19 : ez_I h2 123 i.toInt.toNat = x19
          have rx19 := z_rng x19
          have yx19 := A_t i.toInt.toNat (by omega)
          rw [ex19] at yx19
          refine z_go ?_
          refine gw_skip _ ?_
          refine z_is (n := 288) (zT S2 (by decide) rfl) (zN S2 (by decide) rfl) (by omega) (fun h20 e21 => ?_)
          have S22 := zSh_set S2 e21
          have F23 := zG_setA F e21 (by decide) (by decide)
          have f24 : ez_I h20 71 59 = (ez_I h2 71 59) := (zI_ne e21 (by omega)).trans (rfl)
          have f25 : ez_I h20 71 61 = (ez_I h2 71 61) := (zI_ne e21 (by omega)).trans (rfl)
          have A26 : aR (ez_I h20 123) (a.toInt + b.toInt).toNat 0 15 := by rw [zI_fn e21 123 (by decide)]; exact A_t
          have A27 : aR (ez_I h20 120) (i.toInt.toNat + 1) 0 15 := aR_ex A_L e21 (by omega) (by omega)
          refine z_inc rfl (by rw [show (1 : Int32).toInt = 1 from rfl]; omega) (fun x28 ex28 => ?_)
          rw [show (1 : Int32).toInt = 1 from rfl] at ex28
          show ez_gw _ _ _ _ _ _ _ _ [some (.ref 71), some (.int a), some (.int b), some (.int m), some (.int k4), some (.int so), some (.int x28), l7, l8, l9] _ _ _
          refine z_go ?_
          have t29 := congrArg Int32.toInt (f24)
          have t30 := congrArg Int32.toInt (f25)
          exact ih h20 a b m k4 so x28 (l7) (l8) (l9) F23 (by omega) (aR_le A26 (by omega)) (aR_le A27 (by omega)) (by omega)
set_option maxRecDepth 4000 in
set_option maxHeartbeats 20000000 in
theorem m_rl_L2 {E : Nat → Nat × (Nat → Int32)} {d : Nat} {Q : ez_Q} {h : ez_H}  (S : zSh h) (M6 : 0 ≤ (ez_I h 71 6).toInt ∧ (ez_I h 71 6).toInt ≤ 6000) (hb : 0 ≤ (ez_I h 71 59).toInt ∧ (ez_I h 71 59).toInt ≤ 8 * (ez_I h 71 6).toInt) (hf : 0 ≤ (ez_I h 71 61).toInt) (MC : cC h) (K : ∀ h2, zG (fun k => k = 59 ∨ k = 61) (fun q => q = 115 ∨ 120 ≤ q ∧ q ≤ 123) h h2 → (0 ≤ (ez_I h2 71 59).toInt ∧ (ez_I h 71 59).toInt ≤ (ez_I h2 71 59).toInt ∧ (ez_I h2 71 59).toInt ≤ 8 * (ez_I h 71 6).toInt ∧ 0 ≤ (ez_I h2 71 61).toInt ∧ ((ez_I h2 71 61).toInt = 0 → (ez_I h 71 61).toInt = 0)) → ((ez_I h2 71 61).toInt = 0 → aR (ez_I h2 120) 288 0 15 ∧ aR (ez_I h2 121) 32 0 15) → Q (.inl none) h2) : ∀ N : Nat, (∀ (h2 : ez_H) (a : Int32) (b : Int32) (m : Int32) (k : Int32) (l5 : Option Value) (l6 : Option Value) (l7 : Option Value) (l8 : Option Value) (l9 : Option Value) , zG (fun k => k = 59 ∨ k = 61) (fun q => q = 115 ∨ 120 ≤ q ∧ q ≤ 123) h h2 → (257 ≤ a.toInt ∧ a.toInt ≤ 288 ∧ 1 ≤ b.toInt ∧ b.toInt ≤ 32 ∧ 4 ≤ m.toInt ∧ m.toInt ≤ 19 ∧ 0 ≤ k.toInt ∧ k.toInt ≤ a.toInt + b.toInt ∧ 0 ≤ (ez_I h2 71 59).toInt ∧ (ez_I h 71 59).toInt ≤ (ez_I h2 71 59).toInt ∧ (ez_I h2 71 59).toInt ≤ 8 * (ez_I h 71 6).toInt ∧ 0 ≤ (ez_I h2 71 61).toInt ∧ ((ez_I h2 71 61).toInt = 0 → (ez_I h 71 61).toInt = 0)) → aR (ez_I h2 122) 19 0 15 → aR (ez_I h2 123) k.toInt.toNat 0 15 → (1000 * (50000 - (ez_I h2 71 59).toInt + (400 - k.toInt))) < (N : Int) → pw E (d + 2) 58 127 [some (.ref 71), some (.int a), some (.int b), some (.int m), some (.int k), l5, l6, l7, l8, l9] [] h2 Q) ∧ (∀ (h2 : ez_H) (a : Int32) (b : Int32) (m : Int32) (k : Int32) (l5 : Option Value) (l6 : Option Value) (n : Int32) (v : Int32) (j : Int32) , zG (fun k => k = 59 ∨ k = 61) (fun q => q = 115 ∨ 120 ≤ q ∧ q ≤ 123) h h2 → (257 ≤ a.toInt ∧ a.toInt ≤ 288 ∧ 1 ≤ b.toInt ∧ b.toInt ≤ 32 ∧ 4 ≤ m.toInt ∧ m.toInt ≤ 19 ∧ 0 ≤ k.toInt ∧ k.toInt ≤ a.toInt + b.toInt ∧ 0 ≤ j.toInt ∧ j.toInt ≤ n.toInt ∧ n.toInt ≤ 150 ∧ 0 ≤ v.toInt ∧ v.toInt ≤ 15 ∧ ((ez_I h2 71 61).toInt = 0 → k.toInt + (n.toInt - j.toInt) ≤ a.toInt + b.toInt) ∧ 0 ≤ (ez_I h2 71 59).toInt ∧ (ez_I h 71 59).toInt ≤ (ez_I h2 71 59).toInt ∧ (ez_I h2 71 59).toInt ≤ 8 * (ez_I h 71 6).toInt ∧ 0 ≤ (ez_I h2 71 61).toInt ∧ ((ez_I h2 71 61).toInt = 0 → (ez_I h 71 61).toInt = 0)) → aR (ez_I h2 122) 19 0 15 → aR (ez_I h2 123) k.toInt.toNat 0 15 → (1000 * (50000 - (ez_I h2 71 59).toInt + (400 - k.toInt)) + 500 + (200 - j.toInt)) < (N : Int) → pw E (d + 2) 58 264 [some (.ref 71), some (.int a), some (.int b), some (.int m), some (.int k), l5, l6, some (.int n), some (.int v), some (.int j)] [] h2 Q) := by
  intro N
  induction N with
  | zero => exact ⟨fun h2 a b m k l5 l6 l7 l8 l9  F hinv A_r A_t hm => absurd hm (by have w_a := z_rng a; have w_b := z_rng b; have w_m := z_rng m; have w_k := z_rng k; have MC1 := MC.1; omega), fun h2 a b m k l5 l6 n v j  F hinv A_r A_t hm => absurd hm (by have w_a := z_rng a; have w_b := z_rng b; have w_m := z_rng m; have w_k := z_rng k; have w_n := z_rng n; have w_v := z_rng v; have w_j := z_rng j; have MC1 := MC.1; omega)⟩
  | succ N ih =>
    refine ⟨fun h2 a b m k l5 l6 l7 l8 l9  F hinv A_r A_t hm => ?_, fun h2 a b m k l5 l6 n v j  F hinv A_r A_t hm => ?_⟩
    · skip
      have w_a := z_rng a
      have w_b := z_rng b
      have w_m := z_rng m
      have w_k := z_rng k
      have MC1 := MC.1
      have S2 := zG_sh F S
      apply ez_Wp_in
      show ez_gw _ _ _ _ _ _ (cz_58) _ _ _ _ _
      refine gw_skip _ ?_
      have r1 := z_rng (ez_I h2 71 59)
      have r2 := z_rng (ez_I h2 71 61)
      refine gw_ld rfl rfl ?_
      refine gw_ld rfl rfl ?_
      refine gw_ld rfl rfl ?_
      refine z_add (by omega) (fun x3 ex3 => ?_)
      refine z_b2 (fun c4 => ?_) (fun c4 => ?_)
      · have c4 : x3.toInt ≤ k.toInt := c4
        refine gw_skip _ ?_
        refine gw_ld rfl rfl ?_
        refine z_gI2 (by decide) (zT S2 (by decide) rfl) (rfl) ?_
        refine z_b1 (fun c5 => ?_) (fun c5 => ?_)
        · have c5 : ((ez_I h2 71 61)).toInt ≤ 0 := c5
          refine gw_skip _ ?_
          refine z_C (m := 0) rfl rfl (fun x6 ex6 => ?_)
          refine gw_st rfl rfl rfl ?_
          show ez_gw _ _ _ _ _ _ _ _ [some (.ref 71), some (.int a), some (.int b), some (.int m), some (.int k), some (.int x6), l6, l7, l8, l9] _ _ _
          refine z_C (m := 0) rfl rfl (fun x7 ex7 => ?_)
          refine gw_st rfl rfl rfl ?_
          show ez_gw _ _ _ _ _ _ _ _ [some (.ref 71), some (.int a), some (.int b), some (.int m), some (.int k), some (.int x6), some (.int x7), l7, l8, l9] _ _ _
          exact ez_Wp_at ((m_rl_L3  S M6 hb hf MC K (((2147483647 - x7.toInt)).toNat + 1)) h2 a b m k x6 x7 (l7) (l8) (l9) F (by omega) (aR_le A_t (by omega)) ((by rw [show x7.toInt.toNat = 0 by omega]; exact aR_0 _ _ _)) (by omega)) rfl
        · have c5 : ¬ (((ez_I h2 71 61)).toInt ≤ 0) := c5
          refine z_rv ?_
          exact K _ F (by omega) (fun q => by exfalso; omega)
      · have c4 : ¬ (x3.toInt ≤ k.toInt) := c4
        refine gw_ld rfl rfl ?_
        refine z_gI2 (by decide) (zT S2 (by decide) rfl) (rfl) ?_
        refine z_b1 (fun c8 => ?_) (fun c8 => ?_)
        · have c8 : ((ez_I h2 71 61)).toInt ≠ 0 := c8
          refine gw_skip _ ?_
          refine gw_ld rfl rfl ?_
          refine z_gI2 (by decide) (zT S2 (by decide) rfl) (rfl) ?_
          refine z_b1 (fun c9 => ?_) (fun c9 => ?_)
          · have c9 : ((ez_I h2 71 61)).toInt ≤ 0 := c9
            refine gw_skip _ ?_
            refine z_C (m := 0) rfl rfl (fun x10 ex10 => ?_)
            refine gw_st rfl rfl rfl ?_
            show ez_gw _ _ _ _ _ _ _ _ [some (.ref 71), some (.int a), some (.int b), some (.int m), some (.int k), some (.int x10), l6, l7, l8, l9] _ _ _
            refine z_C (m := 0) rfl rfl (fun x11 ex11 => ?_)
            refine gw_st rfl rfl rfl ?_
            show ez_gw _ _ _ _ _ _ _ _ [some (.ref 71), some (.int a), some (.int b), some (.int m), some (.int k), some (.int x10), some (.int x11), l7, l8, l9] _ _ _
            exact ez_Wp_at ((m_rl_L3  S M6 hb hf MC K (((2147483647 - x11.toInt)).toNat + 1)) h2 a b m k x10 x11 (l7) (l8) (l9) F (by omega) (aR_le A_t (by omega)) ((by rw [show x11.toInt.toNat = 0 by omega]; exact aR_0 _ _ _)) (by omega)) rfl
          · have c9 : ¬ (((ez_I h2 71 61)).toInt ≤ 0) := c9
            refine z_rv ?_
            exact K _ F (by omega) (fun q => by exfalso; omega)
        · have c8 : ¬ (((ez_I h2 71 61)).toInt ≠ 0) := c8
          refine gw_ld rfl rfl ?_
          refine gw_ld rfl rfl ?_
          refine z_gR (q := 122) (zT S2 (by decide) rfl) (zRf S2 (by decide) (by decide) rfl) (by decide) ?_
          refine z_C (m := 19) rfl rfl (fun x12 ex12 => ?_)
          refine z_cl rfl rfl rfl rfl rfl rfl rfl rfl rfl rfl rfl (zT S2 (by decide) rfl) ?_
          refine m_sym S2 (n := x12) (show zA 122 19 from fun _ S => ⟨zT S (by decide) rfl, zN S (by decide) rfl⟩) (by decide) (by decide) (by omega) (aR_le A_r (by omega)) (by rw [zG_f F (k := 6) (by decide)]; exact M6) (by rw [show ez_I h2 71 6 = ez_I h 71 6 from zG_f F (by decide)]; omega) (by omega) (fun h13 x18 F14 k15 k16 k17 => ?_)
          have rx18 := z_rng x18
          rw [show ez_I h2 71 6 = ez_I h 71 6 from zG_f F (by decide)] at k16
          have S19 := zG_sh F14 S2
          have F20 := zG_tr F (zG_mono F14 (fun k hk => by first | omega | exact False.elim hk) (fun k hk => by first | omega | exact False.elim hk))
          have r21 := z_rng (ez_I h13 71 59)
          have r22 := z_rng (ez_I h13 71 61)
          have A23 : aR (ez_I h13 122) 19 0 15 := by rw [zG_fn F14 122 (by decide) (by first | omega | exact fun c => c)]; exact A_r
          have A24 : aR (ez_I h13 123) k.toInt.toNat 0 15 := by rw [zG_fn F14 123 (by decide) (by first | omega | exact fun c => c)]; exact A_t
          refine gw_st rfl rfl rfl ?_
          show ez_gw _ _ _ _ _ _ _ _ [some (.ref 71), some (.int a), some (.int b), some (.int m), some (.int k), some (.int x18), l6, l7, l8, l9] _ _ _
          refine gw_ld rfl rfl ?_
          refine gw_ld rfl rfl ?_
          refine z_cl rfl rfl rfl rfl rfl rfl rfl rfl rfl rfl rfl (trivial) ?_
          refine m_rest S19 (y := x18) (fun x25 k26 k27 => ?_)
          have rx25 := z_rng x25
          refine z_cl rfl rfl rfl rfl rfl rfl rfl rfl rfl rfl rfl (zT S19 (by decide) rfl) ?_
          refine m_tb S19 (n := x25) (by rw [zG_f F20 (k := 6) (by decide)]; exact M6) (by rw [show ez_I h13 71 6 = ez_I h 71 6 from zG_f F20 (by decide)]; omega) (by omega) (by omega) (fun h28 x33 F29 k30 k31 k32 => ?_)
          have rx33 := z_rng x33
          rw [show ez_I h13 71 6 = ez_I h 71 6 from zG_f F20 (by decide)] at k31
          have S34 := zG_sh F29 S19
          have F35 := zG_tr F20 (zG_mono F29 (fun k hk => by first | omega | exact False.elim hk) (fun k hk => by first | omega | exact False.elim hk))
          have r36 := z_rng (ez_I h28 71 59)
          have r37 := z_rng (ez_I h28 71 61)
          have A38 : aR (ez_I h28 122) 19 0 15 := by rw [zG_fn F29 122 (by decide) (by first | omega | exact fun c => c)]; exact A23
          have A39 : aR (ez_I h28 123) k.toInt.toNat 0 15 := by rw [zG_fn F29 123 (by decide) (by first | omega | exact fun c => c)]; exact A24
          have k30_p := z_pow_le (a := x25.toInt.toNat) (b := 13) (by omega)
          have : (2 : Int) ^ 13 = 8192 := rfl
          have k30_q : x25.toInt ≤ 7 → (2 : Int) ^ x25.toInt.toNat ≤ 2 ^ 7 := fun q => z_pow_le (by omega)
          have : (2 : Int) ^ 7 = 128 := rfl
          have k30_r : x25.toInt ≤ 5 → (2 : Int) ^ x25.toInt.toNat ≤ 2 ^ 5 := fun q => z_pow_le (by omega)
          have : (2 : Int) ^ 5 = 32 := rfl
          refine gw_st rfl rfl rfl ?_
          show ez_gw _ _ _ _ _ _ _ _ [some (.ref 71), some (.int a), some (.int b), some (.int m), some (.int k), some (.int x18), some (.int x33), l7, l8, l9] _ _ _
          refine gw_ld rfl rfl ?_
          refine z_C (m := 16) rfl rfl (fun x40 ex40 => ?_)
          refine z_b2 (fun c41 => ?_) (fun c41 => ?_)
          · have c41 : x40.toInt ≤ x18.toInt := c41
            refine gw_skip _ ?_
            refine gw_ld rfl rfl ?_
            refine gw_ld rfl rfl ?_
            refine z_C (m := 18) rfl rfl (fun x42 ex42 => ?_)
            refine z_b2 (fun c43 => ?_) (fun c43 => ?_)
            · have c43 : x18.toInt ≠ x42.toInt := c43
              refine gw_skip _ ?_
              refine z_C (m := 3) rfl rfl (fun x44 ex44 => ?_)
              refine z_add (by omega) (fun x45 ex45 => ?_)
              refine gw_st rfl rfl rfl ?_
              show ez_gw _ _ _ _ _ _ _ _ [some (.ref 71), some (.int a), some (.int b), some (.int m), some (.int k), some (.int x18), some (.int x33), some (.int x45), l8, l9] _ _ _
              refine gw_ld rfl rfl ?_
              refine z_C (m := 16) rfl rfl (fun x46 ex46 => ?_)
              refine z_b2 (fun c47 => ?_) (fun c47 => ?_)
              · have c47 : x18.toInt ≠ x46.toInt := c47
                refine gw_skip _ ?_
                refine gw_ld rfl rfl ?_
                refine gw_ld rfl rfl ?_
                refine z_add (by omega) (fun x48 ex48 => ?_)
                refine gw_ld rfl rfl ?_
                refine gw_ld rfl rfl ?_
                refine z_add (by omega) (fun x49 ex49 => ?_)
                refine z_b2 (fun c50 => ?_) (fun c50 => ?_)
                · have c50 : x48.toInt ≤ x49.toInt := c50
                  refine gw_skip _ ?_
                  refine gw_ld rfl rfl ?_
                  refine z_C (m := 16) rfl rfl (fun x51 ex51 => ?_)
                  refine z_b2 (fun c52 => ?_) (fun c52 => ?_)
                  · have c52 : x18.toInt ≠ x51.toInt := c52
                    refine gw_skip _ ?_
                    refine z_C (m := 0) rfl rfl (fun x53 ex53 => ?_)
                    refine gw_st rfl rfl rfl ?_
                    show ez_gw _ _ _ _ _ _ _ _ [some (.ref 71), some (.int a), some (.int b), some (.int m), some (.int k), some (.int x18), some (.int x33), some (.int x45), some (.int x53), l9] _ _ _
                    refine z_C (m := 0) rfl rfl (fun x54 ex54 => ?_)
                    refine gw_st rfl rfl rfl ?_
                    show ez_gw _ _ _ _ _ _ _ _ [some (.ref 71), some (.int a), some (.int b), some (.int m), some (.int k), some (.int x18), some (.int x33), some (.int x45), some (.int x53), some (.int x54)] _ _ _
                    exact ez_Wp_at (ih.2 h28 a b m k (some (.int x18)) (some (.int x33)) x45 x53 x54 F35 (by omega) A38 (aR_le A39 (by omega)) (by omega)) rfl
                  · have c52 : ¬ (x18.toInt ≠ x51.toInt) := c52
                    exfalso; omega
                · have c50 : ¬ (x48.toInt ≤ x49.toInt) := c50
                  refine gw_ld rfl rfl ?_
                  refine z_C (m := 6) rfl rfl (fun x55 ex55 => ?_)
                  refine z_cl rfl rfl rfl rfl rfl rfl rfl rfl rfl rfl rfl (zT S34 (by decide) rfl) ?_
                  refine m_wrong S34 (n := x55) (by omega) (by omega) (fun h56  F57 k58 => ?_)
                  have S59 := zG_sh F57 S34
                  have F60 := zG_tr F35 (zG_mono F57 (fun k hk => by first | omega | exact False.elim hk) (fun k hk => by first | omega | exact False.elim hk))
                  have f61 : ez_I h56 71 59 = (ez_I h28 71 59) := (zG_f F57 (by decide)).trans (rfl)
                  have r62 := z_rng (ez_I h56 71 61)
                  have A63 : aR (ez_I h56 122) 19 0 15 := by rw [zG_fn F57 122 (by decide) (by first | omega | exact fun c => c)]; exact A38
                  have A64 : aR (ez_I h56 123) k.toInt.toNat 0 15 := by rw [zG_fn F57 123 (by decide) (by first | omega | exact fun c => c)]; exact A39
                  refine gw_ld rfl rfl ?_
                  refine z_C (m := 16) rfl rfl (fun x65 ex65 => ?_)
                  refine z_b2 (fun c66 => ?_) (fun c66 => ?_)
                  · have c66 : x18.toInt ≠ x65.toInt := c66
                    refine gw_skip _ ?_
                    refine z_C (m := 0) rfl rfl (fun x67 ex67 => ?_)
                    refine gw_st rfl rfl rfl ?_
                    show ez_gw _ _ _ _ _ _ _ _ [some (.ref 71), some (.int a), some (.int b), some (.int m), some (.int k), some (.int x18), some (.int x33), some (.int x45), some (.int x67), l9] _ _ _
                    refine z_C (m := 0) rfl rfl (fun x68 ex68 => ?_)
                    refine gw_st rfl rfl rfl ?_
                    show ez_gw _ _ _ _ _ _ _ _ [some (.ref 71), some (.int a), some (.int b), some (.int m), some (.int k), some (.int x18), some (.int x33), some (.int x45), some (.int x67), some (.int x68)] _ _ _
                    have t69 := congrArg Int32.toInt (f61)
                    exact ez_Wp_at (ih.2 h56 a b m k (some (.int x18)) (some (.int x33)) x45 x67 x68 F60 (by omega) A63 (aR_le A64 (by omega)) (by omega)) rfl
                  · have c66 : ¬ (x18.toInt ≠ x65.toInt) := c66
                    exfalso; omega
              · have c47 : ¬ (x18.toInt ≠ x46.toInt) := c47
                refine gw_ld rfl rfl ?_
                refine z_b1 (fun c70 => ?_) (fun c70 => ?_)
                · have c70 : k.toInt = 0 := c70
                  refine gw_skip _ ?_
                  refine gw_ld rfl rfl ?_
                  refine z_C (m := 6) rfl rfl (fun x71 ex71 => ?_)
                  refine z_cl rfl rfl rfl rfl rfl rfl rfl rfl rfl rfl rfl (zT S34 (by decide) rfl) ?_
                  refine m_wrong S34 (n := x71) (by omega) (by omega) (fun h72  F73 k74 => ?_)
                  have S75 := zG_sh F73 S34
                  have F76 := zG_tr F35 (zG_mono F73 (fun k hk => by first | omega | exact False.elim hk) (fun k hk => by first | omega | exact False.elim hk))
                  have f77 : ez_I h72 71 59 = (ez_I h28 71 59) := (zG_f F73 (by decide)).trans (rfl)
                  have r78 := z_rng (ez_I h72 71 61)
                  have A79 : aR (ez_I h72 122) 19 0 15 := by rw [zG_fn F73 122 (by decide) (by first | omega | exact fun c => c)]; exact A38
                  have A80 : aR (ez_I h72 123) k.toInt.toNat 0 15 := by rw [zG_fn F73 123 (by decide) (by first | omega | exact fun c => c)]; exact A39
                  refine gw_ld rfl rfl ?_
                  refine z_C (m := 16) rfl rfl (fun x81 ex81 => ?_)
                  refine z_b2 (fun c82 => ?_) (fun c82 => ?_)
                  · have c82 : x18.toInt ≠ x81.toInt := c82
                    exfalso; omega
                  · have c82 : ¬ (x18.toInt ≠ x81.toInt) := c82
                    refine gw_ld rfl rfl ?_
                    refine z_b1 (fun c83 => ?_) (fun c83 => ?_)
                    · have c83 : k.toInt ≤ 0 := c83
                      refine gw_skip _ ?_
                      refine z_C (m := 0) rfl rfl (fun x84 ex84 => ?_)
                      refine gw_st rfl rfl rfl ?_
                      show ez_gw _ _ _ _ _ _ _ _ [some (.ref 71), some (.int a), some (.int b), some (.int m), some (.int k), some (.int x18), some (.int x33), some (.int x45), some (.int x84), l9] _ _ _
                      refine z_C (m := 0) rfl rfl (fun x85 ex85 => ?_)
                      refine gw_st rfl rfl rfl ?_
                      show ez_gw _ _ _ _ _ _ _ _ [some (.ref 71), some (.int a), some (.int b), some (.int m), some (.int k), some (.int x18), some (.int x33), some (.int x45), some (.int x84), some (.int x85)] _ _ _
                      have t86 := congrArg Int32.toInt (f77)
                      exact ez_Wp_at (ih.2 h72 a b m k (some (.int x18)) (some (.int x33)) x45 x84 x85 F76 (by omega) A79 (aR_le A80 (by omega)) (by omega)) rfl
                    · have c83 : ¬ (k.toInt ≤ 0) := c83
                      exfalso; omega
                · have c70 : ¬ (k.toInt = 0) := c70
                  refine gw_ld rfl rfl ?_
                  refine gw_ld rfl rfl ?_
                  refine z_add (by omega) (fun x87 ex87 => ?_)
                  refine gw_ld rfl rfl ?_
                  refine gw_ld rfl rfl ?_
                  refine z_add (by omega) (fun x88 ex88 => ?_)
                  refine z_b2 (fun c89 => ?_) (fun c89 => ?_)
                  · have c89 : x87.toInt ≤ x88.toInt := c89
                    refine gw_skip _ ?_
                    refine gw_ld rfl rfl ?_
                    refine z_C (m := 16) rfl rfl (fun x90 ex90 => ?_)
                    refine z_b2 (fun c91 => ?_) (fun c91 => ?_)
                    · have c91 : x18.toInt ≠ x90.toInt := c91
                      exfalso; omega
                    · have c91 : ¬ (x18.toInt ≠ x90.toInt) := c91
                      refine gw_ld rfl rfl ?_
                      refine z_b1 (fun c92 => ?_) (fun c92 => ?_)
                      · have c92 : k.toInt ≤ 0 := c92
                        refine gw_skip _ ?_
                        refine z_C (m := 0) rfl rfl (fun x93 ex93 => ?_)
                        refine gw_st rfl rfl rfl ?_
                        show ez_gw _ _ _ _ _ _ _ _ [some (.ref 71), some (.int a), some (.int b), some (.int m), some (.int k), some (.int x18), some (.int x33), some (.int x45), some (.int x93), l9] _ _ _
                        refine z_C (m := 0) rfl rfl (fun x94 ex94 => ?_)
                        refine gw_st rfl rfl rfl ?_
                        show ez_gw _ _ _ _ _ _ _ _ [some (.ref 71), some (.int a), some (.int b), some (.int m), some (.int k), some (.int x18), some (.int x33), some (.int x45), some (.int x93), some (.int x94)] _ _ _
                        exact ez_Wp_at (ih.2 h28 a b m k (some (.int x18)) (some (.int x33)) x45 x93 x94 F35 (by omega) A38 (aR_le A39 (by omega)) (by omega)) rfl
                      · have c92 : ¬ (k.toInt ≤ 0) := c92
                        refine gw_ld rfl rfl ?_
                        refine z_gR (q := 123) (zT S34 (by decide) rfl) (zRf S34 (by decide) (by decide) rfl) (by decide) ?_
                        refine gw_ld rfl rfl ?_
                        refine z_C (m := 1) rfl rfl (fun x95 ex95 => ?_)
                        refine z_sub (by omega) (fun x96 ex96 => ?_)
                        refine z_ia (n := 330) (zT S34 (by decide) rfl) (zN S34 (by decide) rfl) (by omega) ?_
                        generalize ex97 : ez_I h28 123 x96.toInt.toNat = x97
                        have rx97 := z_rng x97
                        have yx97 := A39 x96.toInt.toNat (by omega)
                        rw [ex97] at yx97
                        refine z_go ?_
                        refine gw_skip _ ?_
                        refine gw_st rfl rfl rfl ?_
                        show ez_gw _ _ _ _ _ _ _ _ [some (.ref 71), some (.int a), some (.int b), some (.int m), some (.int k), some (.int x18), some (.int x33), some (.int x45), some (.int x97), l9] _ _ _
                        refine z_C (m := 0) rfl rfl (fun x98 ex98 => ?_)
                        refine gw_st rfl rfl rfl ?_
                        show ez_gw _ _ _ _ _ _ _ _ [some (.ref 71), some (.int a), some (.int b), some (.int m), some (.int k), some (.int x18), some (.int x33), some (.int x45), some (.int x97), some (.int x98)] _ _ _
                        exact ez_Wp_at (ih.2 h28 a b m k (some (.int x18)) (some (.int x33)) x45 x97 x98 F35 (by omega) A38 (aR_le A39 (by omega)) (by omega)) rfl
                  · have c89 : ¬ (x87.toInt ≤ x88.toInt) := c89
                    refine gw_ld rfl rfl ?_
                    refine z_C (m := 6) rfl rfl (fun x99 ex99 => ?_)
                    refine z_cl rfl rfl rfl rfl rfl rfl rfl rfl rfl rfl rfl (zT S34 (by decide) rfl) ?_
                    refine m_wrong S34 (n := x99) (by omega) (by omega) (fun h100  F101 k102 => ?_)
                    have S103 := zG_sh F101 S34
                    have F104 := zG_tr F35 (zG_mono F101 (fun k hk => by first | omega | exact False.elim hk) (fun k hk => by first | omega | exact False.elim hk))
                    have f105 : ez_I h100 71 59 = (ez_I h28 71 59) := (zG_f F101 (by decide)).trans (rfl)
                    have r106 := z_rng (ez_I h100 71 61)
                    have A107 : aR (ez_I h100 122) 19 0 15 := by rw [zG_fn F101 122 (by decide) (by first | omega | exact fun c => c)]; exact A38
                    have A108 : aR (ez_I h100 123) k.toInt.toNat 0 15 := by rw [zG_fn F101 123 (by decide) (by first | omega | exact fun c => c)]; exact A39
                    refine gw_ld rfl rfl ?_
                    refine z_C (m := 16) rfl rfl (fun x109 ex109 => ?_)
                    refine z_b2 (fun c110 => ?_) (fun c110 => ?_)
                    · have c110 : x18.toInt ≠ x109.toInt := c110
                      exfalso; omega
                    · have c110 : ¬ (x18.toInt ≠ x109.toInt) := c110
                      refine gw_ld rfl rfl ?_
                      refine z_b1 (fun c111 => ?_) (fun c111 => ?_)
                      · have c111 : k.toInt ≤ 0 := c111
                        refine gw_skip _ ?_
                        refine z_C (m := 0) rfl rfl (fun x112 ex112 => ?_)
                        refine gw_st rfl rfl rfl ?_
                        show ez_gw _ _ _ _ _ _ _ _ [some (.ref 71), some (.int a), some (.int b), some (.int m), some (.int k), some (.int x18), some (.int x33), some (.int x45), some (.int x112), l9] _ _ _
                        refine z_C (m := 0) rfl rfl (fun x113 ex113 => ?_)
                        refine gw_st rfl rfl rfl ?_
                        show ez_gw _ _ _ _ _ _ _ _ [some (.ref 71), some (.int a), some (.int b), some (.int m), some (.int k), some (.int x18), some (.int x33), some (.int x45), some (.int x112), some (.int x113)] _ _ _
                        have t114 := congrArg Int32.toInt (f105)
                        exact ez_Wp_at (ih.2 h100 a b m k (some (.int x18)) (some (.int x33)) x45 x112 x113 F104 (by omega) A107 (aR_le A108 (by omega)) (by omega)) rfl
                      · have c111 : ¬ (k.toInt ≤ 0) := c111
                        refine gw_ld rfl rfl ?_
                        refine z_gR (q := 123) (zT S103 (by decide) rfl) (zRf S103 (by decide) (by decide) rfl) (by decide) ?_
                        refine gw_ld rfl rfl ?_
                        refine z_C (m := 1) rfl rfl (fun x115 ex115 => ?_)
                        refine z_sub (by omega) (fun x116 ex116 => ?_)
                        refine z_ia (n := 330) (zT S103 (by decide) rfl) (zN S103 (by decide) rfl) (by omega) ?_
                        generalize ex117 : ez_I h100 123 x116.toInt.toNat = x117
                        have rx117 := z_rng x117
                        have yx117 := A108 x116.toInt.toNat (by omega)
                        rw [ex117] at yx117
                        refine z_go ?_
                        refine gw_skip _ ?_
                        refine gw_st rfl rfl rfl ?_
                        show ez_gw _ _ _ _ _ _ _ _ [some (.ref 71), some (.int a), some (.int b), some (.int m), some (.int k), some (.int x18), some (.int x33), some (.int x45), some (.int x117), l9] _ _ _
                        refine z_C (m := 0) rfl rfl (fun x118 ex118 => ?_)
                        refine gw_st rfl rfl rfl ?_
                        show ez_gw _ _ _ _ _ _ _ _ [some (.ref 71), some (.int a), some (.int b), some (.int m), some (.int k), some (.int x18), some (.int x33), some (.int x45), some (.int x117), some (.int x118)] _ _ _
                        have t119 := congrArg Int32.toInt (f105)
                        exact ez_Wp_at (ih.2 h100 a b m k (some (.int x18)) (some (.int x33)) x45 x117 x118 F104 (by omega) A107 (aR_le A108 (by omega)) (by omega)) rfl
            · have c43 : ¬ (x18.toInt ≠ x42.toInt) := c43
              refine z_C (m := 11) rfl rfl (fun x120 ex120 => ?_)
              refine z_go ?_
              refine gw_skip _ ?_
              refine z_add (by omega) (fun x121 ex121 => ?_)
              refine gw_st rfl rfl rfl ?_
              show ez_gw _ _ _ _ _ _ _ _ [some (.ref 71), some (.int a), some (.int b), some (.int m), some (.int k), some (.int x18), some (.int x33), some (.int x121), l8, l9] _ _ _
              refine gw_ld rfl rfl ?_
              refine z_C (m := 16) rfl rfl (fun x122 ex122 => ?_)
              refine z_b2 (fun c123 => ?_) (fun c123 => ?_)
              · have c123 : x18.toInt ≠ x122.toInt := c123
                refine gw_skip _ ?_
                refine gw_ld rfl rfl ?_
                refine gw_ld rfl rfl ?_
                refine z_add (by omega) (fun x124 ex124 => ?_)
                refine gw_ld rfl rfl ?_
                refine gw_ld rfl rfl ?_
                refine z_add (by omega) (fun x125 ex125 => ?_)
                refine z_b2 (fun c126 => ?_) (fun c126 => ?_)
                · have c126 : x124.toInt ≤ x125.toInt := c126
                  refine gw_skip _ ?_
                  refine gw_ld rfl rfl ?_
                  refine z_C (m := 16) rfl rfl (fun x127 ex127 => ?_)
                  refine z_b2 (fun c128 => ?_) (fun c128 => ?_)
                  · have c128 : x18.toInt ≠ x127.toInt := c128
                    refine gw_skip _ ?_
                    refine z_C (m := 0) rfl rfl (fun x129 ex129 => ?_)
                    refine gw_st rfl rfl rfl ?_
                    show ez_gw _ _ _ _ _ _ _ _ [some (.ref 71), some (.int a), some (.int b), some (.int m), some (.int k), some (.int x18), some (.int x33), some (.int x121), some (.int x129), l9] _ _ _
                    refine z_C (m := 0) rfl rfl (fun x130 ex130 => ?_)
                    refine gw_st rfl rfl rfl ?_
                    show ez_gw _ _ _ _ _ _ _ _ [some (.ref 71), some (.int a), some (.int b), some (.int m), some (.int k), some (.int x18), some (.int x33), some (.int x121), some (.int x129), some (.int x130)] _ _ _
                    exact ez_Wp_at (ih.2 h28 a b m k (some (.int x18)) (some (.int x33)) x121 x129 x130 F35 (by omega) A38 (aR_le A39 (by omega)) (by omega)) rfl
                  · have c128 : ¬ (x18.toInt ≠ x127.toInt) := c128
                    exfalso; omega
                · have c126 : ¬ (x124.toInt ≤ x125.toInt) := c126
                  refine gw_ld rfl rfl ?_
                  refine z_C (m := 6) rfl rfl (fun x131 ex131 => ?_)
                  refine z_cl rfl rfl rfl rfl rfl rfl rfl rfl rfl rfl rfl (zT S34 (by decide) rfl) ?_
                  refine m_wrong S34 (n := x131) (by omega) (by omega) (fun h132  F133 k134 => ?_)
                  have S135 := zG_sh F133 S34
                  have F136 := zG_tr F35 (zG_mono F133 (fun k hk => by first | omega | exact False.elim hk) (fun k hk => by first | omega | exact False.elim hk))
                  have f137 : ez_I h132 71 59 = (ez_I h28 71 59) := (zG_f F133 (by decide)).trans (rfl)
                  have r138 := z_rng (ez_I h132 71 61)
                  have A139 : aR (ez_I h132 122) 19 0 15 := by rw [zG_fn F133 122 (by decide) (by first | omega | exact fun c => c)]; exact A38
                  have A140 : aR (ez_I h132 123) k.toInt.toNat 0 15 := by rw [zG_fn F133 123 (by decide) (by first | omega | exact fun c => c)]; exact A39
                  refine gw_ld rfl rfl ?_
                  refine z_C (m := 16) rfl rfl (fun x141 ex141 => ?_)
                  refine z_b2 (fun c142 => ?_) (fun c142 => ?_)
                  · have c142 : x18.toInt ≠ x141.toInt := c142
                    refine gw_skip _ ?_
                    refine z_C (m := 0) rfl rfl (fun x143 ex143 => ?_)
                    refine gw_st rfl rfl rfl ?_
                    show ez_gw _ _ _ _ _ _ _ _ [some (.ref 71), some (.int a), some (.int b), some (.int m), some (.int k), some (.int x18), some (.int x33), some (.int x121), some (.int x143), l9] _ _ _
                    refine z_C (m := 0) rfl rfl (fun x144 ex144 => ?_)
                    refine gw_st rfl rfl rfl ?_
                    show ez_gw _ _ _ _ _ _ _ _ [some (.ref 71), some (.int a), some (.int b), some (.int m), some (.int k), some (.int x18), some (.int x33), some (.int x121), some (.int x143), some (.int x144)] _ _ _
                    have t145 := congrArg Int32.toInt (f137)
                    exact ez_Wp_at (ih.2 h132 a b m k (some (.int x18)) (some (.int x33)) x121 x143 x144 F136 (by omega) A139 (aR_le A140 (by omega)) (by omega)) rfl
                  · have c142 : ¬ (x18.toInt ≠ x141.toInt) := c142
                    exfalso; omega
              · have c123 : ¬ (x18.toInt ≠ x122.toInt) := c123
                exfalso; omega
          · have c41 : ¬ (x40.toInt ≤ x18.toInt) := c41
            refine gw_ld rfl rfl ?_
            refine z_gR (q := 123) (zT S34 (by decide) rfl) (zRf S34 (by decide) (by decide) rfl) (by decide) ?_
            refine gw_ld rfl rfl ?_
            refine gw_ld rfl rfl ?_
            refine z_is (n := 330) (zT S34 (by decide) rfl) (zN S34 (by decide) rfl) (by omega) (fun h146 e147 => ?_)
            have S148 := zSh_set S34 e147
            have F149 := zG_setA F35 e147 (by decide) (by decide)
            have f150 : ez_I h146 71 59 = (ez_I h28 71 59) := (zI_ne e147 (by omega)).trans (rfl)
            have f151 : ez_I h146 71 61 = (ez_I h28 71 61) := (zI_ne e147 (by omega)).trans (rfl)
            have A152 : aR (ez_I h146 122) 19 0 15 := by rw [zI_fn e147 122 (by decide)]; exact A38
            have A153 : aR (ez_I h146 123) (k.toInt.toNat + 1) 0 15 := aR_ex A39 e147 (by omega) (by omega)
            clear A38
            clear A39
            refine z_inc rfl (by rw [show (1 : Int32).toInt = 1 from rfl]; omega) (fun x154 ex154 => ?_)
            rw [show (1 : Int32).toInt = 1 from rfl] at ex154
            show ez_gw _ _ _ _ _ _ _ _ [some (.ref 71), some (.int a), some (.int b), some (.int m), some (.int x154), some (.int x18), some (.int x33), l7, l8, l9] _ _ _
            refine z_go ?_
            have t155 := congrArg Int32.toInt (f150)
            have t156 := congrArg Int32.toInt (f151)
            exact ih.1 h146 a b m x154 (some (.int x18)) (some (.int x33)) (l7) (l8) (l9) F149 (by omega) A152 (aR_le A153 (by omega)) (by omega)
    · skip
      have w_a := z_rng a
      have w_b := z_rng b
      have w_m := z_rng m
      have w_k := z_rng k
      have w_n := z_rng n
      have w_v := z_rng v
      have w_j := z_rng j
      have MC1 := MC.1
      have S2 := zG_sh F S
      apply ez_Wp_in
      show ez_gw _ _ _ _ _ _ (cz_58) _ _ _ _ _
      refine gw_skip _ ?_
      have r157 := z_rng (ez_I h2 71 59)
      have r158 := z_rng (ez_I h2 71 61)
      refine gw_ld rfl rfl ?_
      refine gw_ld rfl rfl ?_
      refine z_b2 (fun c159 => ?_) (fun c159 => ?_)
      · have c159 : n.toInt ≤ j.toInt := c159
        refine gw_skip _ ?_
        refine z_go ?_
        exact ih.1 h2 a b m k (l5) (l6) (some (.int n)) (some (.int v)) (some (.int j)) F (by omega) A_r (aR_le A_t (by omega)) (by omega)
      · have c159 : ¬ (n.toInt ≤ j.toInt) := c159
        refine gw_ld rfl rfl ?_
        refine z_gI2 (by decide) (zT S2 (by decide) rfl) (rfl) ?_
        refine z_b1 (fun c160 => ?_) (fun c160 => ?_)
        · have c160 : ((ez_I h2 71 61)).toInt ≠ 0 := c160
          refine gw_skip _ ?_
          refine z_go ?_
          exact ih.1 h2 a b m k (l5) (l6) (some (.int n)) (some (.int v)) (some (.int j)) F (by omega) A_r (aR_le A_t (by omega)) (by omega)
        · have c160 : ¬ (((ez_I h2 71 61)).toInt ≠ 0) := c160
          refine gw_ld rfl rfl ?_
          refine z_gR (q := 123) (zT S2 (by decide) rfl) (zRf S2 (by decide) (by decide) rfl) (by decide) ?_
          refine gw_ld rfl rfl ?_
          refine gw_ld rfl rfl ?_
          refine z_is (n := 330) (zT S2 (by decide) rfl) (zN S2 (by decide) rfl) (by omega) (fun h161 e162 => ?_)
          have S163 := zSh_set S2 e162
          have F164 := zG_setA F e162 (by decide) (by decide)
          have f165 : ez_I h161 71 59 = (ez_I h2 71 59) := (zI_ne e162 (by omega)).trans (rfl)
          have f166 : ez_I h161 71 61 = (ez_I h2 71 61) := (zI_ne e162 (by omega)).trans (rfl)
          have A167 : aR (ez_I h161 122) 19 0 15 := by rw [zI_fn e162 122 (by decide)]; exact A_r
          have A168 : aR (ez_I h161 123) (k.toInt.toNat + 1) 0 15 := aR_ex A_t e162 (by omega) (by omega)
          refine z_inc rfl (by rw [show (1 : Int32).toInt = 1 from rfl]; omega) (fun x169 ex169 => ?_)
          rw [show (1 : Int32).toInt = 1 from rfl] at ex169
          show ez_gw _ _ _ _ _ _ _ _ [some (.ref 71), some (.int a), some (.int b), some (.int m), some (.int x169), l5, l6, some (.int n), some (.int v), some (.int j)] _ _ _
          refine z_inc rfl (by rw [show (1 : Int32).toInt = 1 from rfl]; omega) (fun x170 ex170 => ?_)
          rw [show (1 : Int32).toInt = 1 from rfl] at ex170
          show ez_gw _ _ _ _ _ _ _ _ [some (.ref 71), some (.int a), some (.int b), some (.int m), some (.int x169), l5, l6, some (.int n), some (.int v), some (.int x170)] _ _ _
          refine z_go ?_
          have t171 := congrArg Int32.toInt (f165)
          have t172 := congrArg Int32.toInt (f166)
          exact ih.2 h161 a b m x169 (l5) (l6) n v x170 F164 (by omega) A167 (aR_le A168 (by omega)) (by omega)
set_option maxRecDepth 4000 in
set_option maxHeartbeats 20000000 in
theorem m_rl_L1 {E : Nat → Nat × (Nat → Int32)} {d : Nat} {Q : ez_Q} {h : ez_H}  (S : zSh h) (M6 : 0 ≤ (ez_I h 71 6).toInt ∧ (ez_I h 71 6).toInt ≤ 6000) (hb : 0 ≤ (ez_I h 71 59).toInt ∧ (ez_I h 71 59).toInt ≤ 8 * (ez_I h 71 6).toInt) (hf : 0 ≤ (ez_I h 71 61).toInt) (MC : cC h) (K : ∀ h2, zG (fun k => k = 59 ∨ k = 61) (fun q => q = 115 ∨ 120 ≤ q ∧ q ≤ 123) h h2 → (0 ≤ (ez_I h2 71 59).toInt ∧ (ez_I h 71 59).toInt ≤ (ez_I h2 71 59).toInt ∧ (ez_I h2 71 59).toInt ≤ 8 * (ez_I h 71 6).toInt ∧ 0 ≤ (ez_I h2 71 61).toInt ∧ ((ez_I h2 71 61).toInt = 0 → (ez_I h 71 61).toInt = 0)) → ((ez_I h2 71 61).toInt = 0 → aR (ez_I h2 120) 288 0 15 ∧ aR (ez_I h2 121) 32 0 15) → Q (.inl none) h2) : ∀ N : Nat, (∀ (h2 : ez_H) (a : Int32) (b : Int32) (m : Int32) (i : Int32) (l5 : Option Value) (l6 : Option Value) (l7 : Option Value) (l8 : Option Value) (l9 : Option Value) , zG (fun k => k = 59 ∨ k = 61) (fun q => q = 115 ∨ 120 ≤ q ∧ q ≤ 123) h h2 → (257 ≤ a.toInt ∧ a.toInt ≤ 288 ∧ 1 ≤ b.toInt ∧ b.toInt ≤ 32 ∧ 4 ≤ m.toInt ∧ m.toInt ≤ 19 ∧ 0 ≤ i.toInt ∧ 0 ≤ (ez_I h2 71 59).toInt ∧ (ez_I h 71 59).toInt ≤ (ez_I h2 71 59).toInt ∧ (ez_I h2 71 59).toInt ≤ 8 * (ez_I h 71 6).toInt ∧ 0 ≤ (ez_I h2 71 61).toInt ∧ ((ez_I h2 71 61).toInt = 0 → (ez_I h 71 61).toInt = 0)) → aR (ez_I h2 122) 19 0 15 → (2147483647 - i.toInt) < (N : Int) → pw E (d + 2) 58 71 [some (.ref 71), some (.int a), some (.int b), some (.int m), some (.int i), l5, l6, l7, l8, l9] [] h2 Q) := by
  intro N
  induction N with
  | zero => exact fun h2 a b m i l5 l6 l7 l8 l9  F hinv A_r hm => absurd hm (by have w_a := z_rng a; have w_b := z_rng b; have w_m := z_rng m; have w_i := z_rng i; have MC1 := MC.1; omega)
  | succ N ih =>
    refine fun h2 a b m i l5 l6 l7 l8 l9  F hinv A_r hm => ?_
    · skip
      have w_a := z_rng a
      have w_b := z_rng b
      have w_m := z_rng m
      have w_i := z_rng i
      have MC1 := MC.1
      have S2 := zG_sh F S
      apply ez_Wp_in
      show ez_gw _ _ _ _ _ _ (cz_58) _ _ _ _ _
      refine gw_skip _ ?_
      have r1 := z_rng (ez_I h2 71 59)
      have r2 := z_rng (ez_I h2 71 61)
      refine gw_ld rfl rfl ?_
      refine gw_ld rfl rfl ?_
      refine z_b2 (fun c3 => ?_) (fun c3 => ?_)
      · have c3 : m.toInt ≤ i.toInt := c3
        refine gw_skip _ ?_
        refine gw_ld rfl rfl ?_
        refine z_gR (q := 122) (zT S2 (by decide) rfl) (zRf S2 (by decide) (by decide) rfl) (by decide) ?_
        refine z_C (m := 19) rfl rfl (fun x4 ex4 => ?_)
        refine z_cl rfl rfl rfl rfl rfl rfl rfl rfl rfl rfl rfl (trivial) ?_
        refine m_isWhole S2 (n := x4) (show zA 122 19 from fun _ S => ⟨zT S (by decide) rfl, zN S (by decide) rfl⟩) (by decide) (by omega) (fun x5 k6 => ?_)
        have rx5 := z_rng x5
        refine z_b1 (fun c7 => ?_) (fun c7 => ?_)
        · have c7 : x5.toInt ≠ 0 := c7
          refine gw_skip _ ?_
          refine z_C (m := 0) rfl rfl (fun x8 ex8 => ?_)
          refine gw_st rfl rfl rfl ?_
          show ez_gw _ _ _ _ _ _ _ _ [some (.ref 71), some (.int a), some (.int b), some (.int m), some (.int x8), l5, l6, l7, l8, l9] _ _ _
          exact ez_Wp_at ((m_rl_L2  S M6 hb hf MC K (((1000 * (50000 - (ez_I h2 71 59).toInt + (400 - x8.toInt)))).toNat + 1)).1 h2 a b m x8 (l5) (l6) (l7) (l8) (l9) F (by omega) A_r ((by rw [show x8.toInt.toNat = 0 by omega]; exact aR_0 _ _ _)) (by omega)) rfl
        · have c7 : ¬ (x5.toInt ≠ 0) := c7
          refine gw_ld rfl rfl ?_
          refine z_C (m := 5) rfl rfl (fun x9 ex9 => ?_)
          refine z_cl rfl rfl rfl rfl rfl rfl rfl rfl rfl rfl rfl (zT S2 (by decide) rfl) ?_
          refine m_wrong S2 (n := x9) (by omega) (by omega) (fun h10  F11 k12 => ?_)
          have S13 := zG_sh F11 S2
          have F14 := zG_tr F (zG_mono F11 (fun k hk => by first | omega | exact False.elim hk) (fun k hk => by first | omega | exact False.elim hk))
          have f15 : ez_I h10 71 59 = (ez_I h2 71 59) := (zG_f F11 (by decide)).trans (rfl)
          have r16 := z_rng (ez_I h10 71 61)
          have A17 : aR (ez_I h10 122) 19 0 15 := by rw [zG_fn F11 122 (by decide) (by first | omega | exact fun c => c)]; exact A_r
          refine z_C (m := 0) rfl rfl (fun x18 ex18 => ?_)
          refine gw_st rfl rfl rfl ?_
          show ez_gw _ _ _ _ _ _ _ _ [some (.ref 71), some (.int a), some (.int b), some (.int m), some (.int x18), l5, l6, l7, l8, l9] _ _ _
          have t19 := congrArg Int32.toInt (f15)
          exact ez_Wp_at ((m_rl_L2  S M6 hb hf MC K (((1000 * (50000 - (ez_I h10 71 59).toInt + (400 - x18.toInt)))).toNat + 1)).1 h10 a b m x18 (l5) (l6) (l7) (l8) (l9) F14 (by omega) A17 ((by rw [show x18.toInt.toNat = 0 by omega]; exact aR_0 _ _ _)) (by omega)) rfl
      · have c3 : ¬ (m.toInt ≤ i.toInt) := c3
        refine gw_ld rfl rfl ?_
        refine z_gI2 (by decide) (zT S2 (by decide) rfl) (rfl) ?_
        refine z_b1 (fun c20 => ?_) (fun c20 => ?_)
        · have c20 : ((ez_I h2 71 61)).toInt ≠ 0 := c20
          refine gw_skip _ ?_
          refine gw_ld rfl rfl ?_
          refine z_gR (q := 122) (zT S2 (by decide) rfl) (zRf S2 (by decide) (by decide) rfl) (by decide) ?_
          refine z_C (m := 19) rfl rfl (fun x21 ex21 => ?_)
          refine z_cl rfl rfl rfl rfl rfl rfl rfl rfl rfl rfl rfl (trivial) ?_
          refine m_isWhole S2 (n := x21) (show zA 122 19 from fun _ S => ⟨zT S (by decide) rfl, zN S (by decide) rfl⟩) (by decide) (by omega) (fun x22 k23 => ?_)
          have rx22 := z_rng x22
          refine z_b1 (fun c24 => ?_) (fun c24 => ?_)
          · have c24 : x22.toInt ≠ 0 := c24
            refine gw_skip _ ?_
            refine z_C (m := 0) rfl rfl (fun x25 ex25 => ?_)
            refine gw_st rfl rfl rfl ?_
            show ez_gw _ _ _ _ _ _ _ _ [some (.ref 71), some (.int a), some (.int b), some (.int m), some (.int x25), l5, l6, l7, l8, l9] _ _ _
            exact ez_Wp_at ((m_rl_L2  S M6 hb hf MC K (((1000 * (50000 - (ez_I h2 71 59).toInt + (400 - x25.toInt)))).toNat + 1)).1 h2 a b m x25 (l5) (l6) (l7) (l8) (l9) F (by omega) A_r ((by rw [show x25.toInt.toNat = 0 by omega]; exact aR_0 _ _ _)) (by omega)) rfl
          · have c24 : ¬ (x22.toInt ≠ 0) := c24
            refine gw_ld rfl rfl ?_
            refine z_C (m := 5) rfl rfl (fun x26 ex26 => ?_)
            refine z_cl rfl rfl rfl rfl rfl rfl rfl rfl rfl rfl rfl (zT S2 (by decide) rfl) ?_
            refine m_wrong S2 (n := x26) (by omega) (by omega) (fun h27  F28 k29 => ?_)
            have S30 := zG_sh F28 S2
            have F31 := zG_tr F (zG_mono F28 (fun k hk => by first | omega | exact False.elim hk) (fun k hk => by first | omega | exact False.elim hk))
            have f32 : ez_I h27 71 59 = (ez_I h2 71 59) := (zG_f F28 (by decide)).trans (rfl)
            have r33 := z_rng (ez_I h27 71 61)
            have A34 : aR (ez_I h27 122) 19 0 15 := by rw [zG_fn F28 122 (by decide) (by first | omega | exact fun c => c)]; exact A_r
            refine z_C (m := 0) rfl rfl (fun x35 ex35 => ?_)
            refine gw_st rfl rfl rfl ?_
            show ez_gw _ _ _ _ _ _ _ _ [some (.ref 71), some (.int a), some (.int b), some (.int m), some (.int x35), l5, l6, l7, l8, l9] _ _ _
            have t36 := congrArg Int32.toInt (f32)
            exact ez_Wp_at ((m_rl_L2  S M6 hb hf MC K (((1000 * (50000 - (ez_I h27 71 59).toInt + (400 - x35.toInt)))).toNat + 1)).1 h27 a b m x35 (l5) (l6) (l7) (l8) (l9) F31 (by omega) A34 ((by rw [show x35.toInt.toNat = 0 by omega]; exact aR_0 _ _ _)) (by omega)) rfl
        · have c20 : ¬ (((ez_I h2 71 61)).toInt ≠ 0) := c20
          refine gw_ld rfl rfl ?_
          refine z_gR (q := 122) (zT S2 (by decide) rfl) (zRf S2 (by decide) (by decide) rfl) (by decide) ?_
          refine gw_ld rfl rfl ?_
          refine z_gR (q := 96) (zT S2 (by decide) rfl) (zRf S2 (by decide) (by decide) rfl) (by decide) ?_
          refine gw_ld rfl rfl ?_
          refine z_iaV (n := 19) (zT S2 (by decide) rfl) (zN S2 (by decide) rfl) (by omega) (zG_a F (by decide) (by decide)) ?_
          generalize ex37 : ez_I h 96 i.toInt.toNat = x37
          have rx37 := z_rng x37
          have yx37 := MC.2.2.2.2.2 i.toInt.toNat (by omega)
          rw [ex37] at yx37
          refine gw_ld rfl rfl ?_
          refine z_C (m := 3) rfl rfl (fun x38 ex38 => ?_)
          refine z_cl rfl rfl rfl rfl rfl rfl rfl rfl rfl rfl rfl (zT S2 (by decide) rfl) ?_
          refine m_tb S2 (n := x38) (by rw [zG_f F (k := 6) (by decide)]; exact M6) (by rw [show ez_I h2 71 6 = ez_I h 71 6 from zG_f F (by decide)]; omega) (by omega) (by omega) (fun h39 x44 F40 k41 k42 k43 => ?_)
          have rx44 := z_rng x44
          rw [show ez_I h2 71 6 = ez_I h 71 6 from zG_f F (by decide)] at k42
          have S45 := zG_sh F40 S2
          have F46 := zG_tr F (zG_mono F40 (fun k hk => by first | omega | exact False.elim hk) (fun k hk => by first | omega | exact False.elim hk))
          have r47 := z_rng (ez_I h39 71 59)
          have r48 := z_rng (ez_I h39 71 61)
          have A49 : aR (ez_I h39 122) 19 0 15 := by rw [zG_fn F40 122 (by decide) (by first | omega | exact fun c => c)]; exact A_r
          replace k41 := And.intro k41.1 (z_pow (m := 3) k41.2 (by omega))
          have : (2 : Int) ^ 3 = 8 := rfl
          refine z_is (n := 19) (zT S45 (by decide) rfl) (zN S45 (by decide) rfl) (by omega) (fun h50 e51 => ?_)
          have S52 := zSh_set S45 e51
          have F53 := zG_setA F46 e51 (by decide) (by decide)
          have f54 : ez_I h50 71 59 = (ez_I h39 71 59) := (zI_ne e51 (by omega)).trans (rfl)
          have f55 : ez_I h50 71 61 = (ez_I h39 71 61) := (zI_ne e51 (by omega)).trans (rfl)
          have A56 : aR (ez_I h50 122) 19 0 15 := aR_up A49 e51 (by omega)
          clear A49
          refine z_inc rfl (by rw [show (1 : Int32).toInt = 1 from rfl]; omega) (fun x57 ex57 => ?_)
          rw [show (1 : Int32).toInt = 1 from rfl] at ex57
          show ez_gw _ _ _ _ _ _ _ _ [some (.ref 71), some (.int a), some (.int b), some (.int m), some (.int x57), l5, l6, l7, l8, l9] _ _ _
          refine z_go ?_
          have t58 := congrArg Int32.toInt (f54)
          have t59 := congrArg Int32.toInt (f55)
          exact ih h50 a b m x57 (l5) (l6) (l7) (l8) (l9) F53 (by omega) (aR_le A56 (by omega)) (by omega)
set_option maxRecDepth 4000 in
set_option maxHeartbeats 20000000 in
theorem m_rl_L0 {E : Nat → Nat × (Nat → Int32)} {d : Nat} {Q : ez_Q} {h : ez_H}  (S : zSh h) (M6 : 0 ≤ (ez_I h 71 6).toInt ∧ (ez_I h 71 6).toInt ≤ 6000) (hb : 0 ≤ (ez_I h 71 59).toInt ∧ (ez_I h 71 59).toInt ≤ 8 * (ez_I h 71 6).toInt) (hf : 0 ≤ (ez_I h 71 61).toInt) (MC : cC h) (K : ∀ h2, zG (fun k => k = 59 ∨ k = 61) (fun q => q = 115 ∨ 120 ≤ q ∧ q ≤ 123) h h2 → (0 ≤ (ez_I h2 71 59).toInt ∧ (ez_I h 71 59).toInt ≤ (ez_I h2 71 59).toInt ∧ (ez_I h2 71 59).toInt ≤ 8 * (ez_I h 71 6).toInt ∧ 0 ≤ (ez_I h2 71 61).toInt ∧ ((ez_I h2 71 61).toInt = 0 → (ez_I h 71 61).toInt = 0)) → ((ez_I h2 71 61).toInt = 0 → aR (ez_I h2 120) 288 0 15 ∧ aR (ez_I h2 121) 32 0 15) → Q (.inl none) h2) : ∀ N : Nat, (∀ (h2 : ez_H) (a : Int32) (b : Int32) (m : Int32) (i : Int32) (l5 : Option Value) (l6 : Option Value) (l7 : Option Value) (l8 : Option Value) (l9 : Option Value) , zG (fun k => k = 59 ∨ k = 61) (fun q => q = 115 ∨ 120 ≤ q ∧ q ≤ 123) h h2 → (257 ≤ a.toInt ∧ a.toInt ≤ 288 ∧ 1 ≤ b.toInt ∧ b.toInt ≤ 32 ∧ 4 ≤ m.toInt ∧ m.toInt ≤ 19 ∧ 0 ≤ i.toInt ∧ i.toInt ≤ 19 ∧ 0 ≤ (ez_I h2 71 59).toInt ∧ (ez_I h 71 59).toInt ≤ (ez_I h2 71 59).toInt ∧ (ez_I h2 71 59).toInt ≤ 8 * (ez_I h 71 6).toInt ∧ 0 ≤ (ez_I h2 71 61).toInt ∧ ((ez_I h2 71 61).toInt = 0 → (ez_I h 71 61).toInt = 0)) → aR (ez_I h2 122) i.toInt.toNat 0 15 → (2147483647 - i.toInt) < (N : Int) → pw E (d + 2) 58 47 [some (.ref 71), some (.int a), some (.int b), some (.int m), some (.int i), l5, l6, l7, l8, l9] [] h2 Q) := by
  intro N
  induction N with
  | zero => exact fun h2 a b m i l5 l6 l7 l8 l9  F hinv A_r hm => absurd hm (by have w_a := z_rng a; have w_b := z_rng b; have w_m := z_rng m; have w_i := z_rng i; have MC1 := MC.1; omega)
  | succ N ih =>
    refine fun h2 a b m i l5 l6 l7 l8 l9  F hinv A_r hm => ?_
    · skip
      have w_a := z_rng a
      have w_b := z_rng b
      have w_m := z_rng m
      have w_i := z_rng i
      have MC1 := MC.1
      have S2 := zG_sh F S
      apply ez_Wp_in
      show ez_gw _ _ _ _ _ _ (cz_58) _ _ _ _ _
      refine gw_skip _ ?_
      have r1 := z_rng (ez_I h2 71 59)
      have r2 := z_rng (ez_I h2 71 61)
      refine gw_ld rfl rfl ?_
      refine z_C (m := 19) rfl rfl (fun x3 ex3 => ?_)
      refine z_b2 (fun c4 => ?_) (fun c4 => ?_)
      · have c4 : x3.toInt ≤ i.toInt := c4
        refine gw_skip _ ?_
        refine z_C (m := 0) rfl rfl (fun x5 ex5 => ?_)
        refine gw_st rfl rfl rfl ?_
        show ez_gw _ _ _ _ _ _ _ _ [some (.ref 71), some (.int a), some (.int b), some (.int m), some (.int x5), l5, l6, l7, l8, l9] _ _ _
        exact ez_Wp_at ((m_rl_L1  S M6 hb hf MC K (((2147483647 - x5.toInt)).toNat + 1)) h2 a b m x5 (l5) (l6) (l7) (l8) (l9) F (by omega) (aR_le A_r (by omega)) (by omega)) rfl
      · have c4 : ¬ (x3.toInt ≤ i.toInt) := c4
        refine gw_ld rfl rfl ?_
        refine z_gR (q := 122) (zT S2 (by decide) rfl) (zRf S2 (by decide) (by decide) rfl) (by decide) ?_
        refine gw_ld rfl rfl ?_
        refine z_C (m := 0) rfl rfl (fun x6 ex6 => ?_)
        refine z_is (n := 19) (zT S2 (by decide) rfl) (zN S2 (by decide) rfl) (by omega) (fun h7 e8 => ?_)
        have S9 := zSh_set S2 e8
        have F10 := zG_setA F e8 (by decide) (by decide)
        have f11 : ez_I h7 71 59 = (ez_I h2 71 59) := (zI_ne e8 (by omega)).trans (rfl)
        have f12 : ez_I h7 71 61 = (ez_I h2 71 61) := (zI_ne e8 (by omega)).trans (rfl)
        have A13 : aR (ez_I h7 122) (i.toInt.toNat + 1) 0 15 := aR_ex A_r e8 (by omega) (by omega)
        refine z_inc rfl (by rw [show (1 : Int32).toInt = 1 from rfl]; omega) (fun x14 ex14 => ?_)
        rw [show (1 : Int32).toInt = 1 from rfl] at ex14
        show ez_gw _ _ _ _ _ _ _ _ [some (.ref 71), some (.int a), some (.int b), some (.int m), some (.int x14), l5, l6, l7, l8, l9] _ _ _
        refine z_go ?_
        have t15 := congrArg Int32.toInt (f11)
        have t16 := congrArg Int32.toInt (f12)
        exact ih h7 a b m x14 (l5) (l6) (l7) (l8) (l9) F10 (by omega) (aR_le A13 (by omega)) (by omega)
set_option maxRecDepth 4000 in
set_option maxHeartbeats 20000000 in
theorem m_rl {E : Nat → Nat × (Nat → Int32)} {d : Nat} {Q : ez_Q} {h : ez_H}  (S : zSh h) (M6 : 0 ≤ (ez_I h 71 6).toInt ∧ (ez_I h 71 6).toInt ≤ 6000) (hb : 0 ≤ (ez_I h 71 59).toInt ∧ (ez_I h 71 59).toInt ≤ 8 * (ez_I h 71 6).toInt) (hf : 0 ≤ (ez_I h 71 61).toInt) (MC : cC h) (K : ∀ h2, zG (fun k => k = 59 ∨ k = 61) (fun q => q = 115 ∨ 120 ≤ q ∧ q ≤ 123) h h2 → (0 ≤ (ez_I h2 71 59).toInt ∧ (ez_I h 71 59).toInt ≤ (ez_I h2 71 59).toInt ∧ (ez_I h2 71 59).toInt ≤ 8 * (ez_I h 71 6).toInt ∧ 0 ≤ (ez_I h2 71 61).toInt ∧ ((ez_I h2 71 61).toInt = 0 → (ez_I h 71 61).toInt = 0)) → ((ez_I h2 71 61).toInt = 0 → aR (ez_I h2 120) 288 0 15 ∧ aR (ez_I h2 121) 32 0 15) → Q (.inl none) h2) : pw E (d + 2) 58 0 [some (.ref 71), none, none, none, none, none, none, none, none, none] [] h Q := by
  have MC1 := MC.1
  have F := zG_refl (fun k => k = 59 ∨ k = 61) (fun q => q = 115 ∨ 120 ≤ q ∧ q ≤ 123) h
  apply ez_Wp_in
  show ez_gw _ _ _ _ _ _ (cz_58) _ _ _ _ _
  refine gw_skip _ ?_
  have r1 := z_rng (ez_I h 71 59)
  have r2 := z_rng (ez_I h 71 61)
  refine gw_ld rfl rfl ?_
  refine z_C (m := 5) rfl rfl (fun x3 ex3 => ?_)
  refine z_cl rfl rfl rfl rfl rfl rfl rfl rfl rfl rfl rfl (zT S (by decide) rfl) ?_
  refine m_tb S (n := x3) (by rw [zG_f F (k := 6) (by decide)]; exact M6) (by rw [show ez_I h 71 6 = ez_I h 71 6 from zG_f F (by decide)]; omega) (by omega) (by omega) (fun h4 x9 F5 k6 k7 k8 => ?_)
  have rx9 := z_rng x9
  rw [show ez_I h 71 6 = ez_I h 71 6 from zG_f F (by decide)] at k7
  have S10 := zG_sh F5 S
  have F11 := zG_tr F (zG_mono F5 (fun k hk => by first | omega | exact False.elim hk) (fun k hk => by first | omega | exact False.elim hk))
  have r12 := z_rng (ez_I h4 71 59)
  have r13 := z_rng (ez_I h4 71 61)
  replace k6 := And.intro k6.1 (z_pow (m := 5) k6.2 (by omega))
  have : (2 : Int) ^ 5 = 32 := rfl
  refine z_C (m := 257) rfl rfl (fun x14 ex14 => ?_)
  refine z_add (by omega) (fun x15 ex15 => ?_)
  refine gw_st rfl rfl rfl ?_
  show ez_gw _ _ _ _ _ _ _ _ [some (.ref 71), some (.int x15), none, none, none, none, none, none, none, none] _ _ _
  refine gw_ld rfl rfl ?_
  refine z_C (m := 5) rfl rfl (fun x16 ex16 => ?_)
  refine z_cl rfl rfl rfl rfl rfl rfl rfl rfl rfl rfl rfl (zT S10 (by decide) rfl) ?_
  refine m_tb S10 (n := x16) (by rw [zG_f F11 (k := 6) (by decide)]; exact M6) (by rw [show ez_I h4 71 6 = ez_I h 71 6 from zG_f F11 (by decide)]; omega) (by omega) (by omega) (fun h17 x22 F18 k19 k20 k21 => ?_)
  have rx22 := z_rng x22
  rw [show ez_I h4 71 6 = ez_I h 71 6 from zG_f F11 (by decide)] at k20
  have S23 := zG_sh F18 S10
  have F24 := zG_tr F11 (zG_mono F18 (fun k hk => by first | omega | exact False.elim hk) (fun k hk => by first | omega | exact False.elim hk))
  have r25 := z_rng (ez_I h17 71 59)
  have r26 := z_rng (ez_I h17 71 61)
  replace k19 := And.intro k19.1 (z_pow (m := 5) k19.2 (by omega))
  have : (2 : Int) ^ 5 = 32 := rfl
  refine z_C (m := 1) rfl rfl (fun x27 ex27 => ?_)
  refine z_add (by omega) (fun x28 ex28 => ?_)
  refine gw_st rfl rfl rfl ?_
  show ez_gw _ _ _ _ _ _ _ _ [some (.ref 71), some (.int x15), some (.int x28), none, none, none, none, none, none, none] _ _ _
  refine gw_ld rfl rfl ?_
  refine z_C (m := 4) rfl rfl (fun x29 ex29 => ?_)
  refine z_cl rfl rfl rfl rfl rfl rfl rfl rfl rfl rfl rfl (zT S23 (by decide) rfl) ?_
  refine m_tb S23 (n := x29) (by rw [zG_f F24 (k := 6) (by decide)]; exact M6) (by rw [show ez_I h17 71 6 = ez_I h 71 6 from zG_f F24 (by decide)]; omega) (by omega) (by omega) (fun h30 x35 F31 k32 k33 k34 => ?_)
  have rx35 := z_rng x35
  rw [show ez_I h17 71 6 = ez_I h 71 6 from zG_f F24 (by decide)] at k33
  have S36 := zG_sh F31 S23
  have F37 := zG_tr F24 (zG_mono F31 (fun k hk => by first | omega | exact False.elim hk) (fun k hk => by first | omega | exact False.elim hk))
  have r38 := z_rng (ez_I h30 71 59)
  have r39 := z_rng (ez_I h30 71 61)
  replace k32 := And.intro k32.1 (z_pow (m := 4) k32.2 (by omega))
  have : (2 : Int) ^ 4 = 16 := rfl
  refine z_C (m := 4) rfl rfl (fun x40 ex40 => ?_)
  refine z_add (by omega) (fun x41 ex41 => ?_)
  refine gw_st rfl rfl rfl ?_
  show ez_gw _ _ _ _ _ _ _ _ [some (.ref 71), some (.int x15), some (.int x28), some (.int x41), none, none, none, none, none, none] _ _ _
  refine gw_ld rfl rfl ?_
  refine z_C (m := 286) rfl rfl (fun x42 ex42 => ?_)
  refine z_b2 (fun c43 => ?_) (fun c43 => ?_)
  · have c43 : x42.toInt < x15.toInt := c43
    refine gw_skip _ ?_
    refine gw_ld rfl rfl ?_
    refine z_C (m := 4) rfl rfl (fun x44 ex44 => ?_)
    refine z_cl rfl rfl rfl rfl rfl rfl rfl rfl rfl rfl rfl (zT S36 (by decide) rfl) ?_
    refine m_wrong S36 (n := x44) (by omega) (by omega) (fun h45  F46 k47 => ?_)
    have S48 := zG_sh F46 S36
    have F49 := zG_tr F37 (zG_mono F46 (fun k hk => by first | omega | exact False.elim hk) (fun k hk => by first | omega | exact False.elim hk))
    have f50 : ez_I h45 71 59 = (ez_I h30 71 59) := (zG_f F46 (by decide)).trans (rfl)
    have r51 := z_rng (ez_I h45 71 61)
    refine z_C (m := 0) rfl rfl (fun x52 ex52 => ?_)
    refine gw_st rfl rfl rfl ?_
    show ez_gw _ _ _ _ _ _ _ _ [some (.ref 71), some (.int x15), some (.int x28), some (.int x41), some (.int x52), none, none, none, none, none] _ _ _
    have t53 := congrArg Int32.toInt (f50)
    exact ez_Wp_at ((m_rl_L0  S M6 hb hf MC K (((2147483647 - x52.toInt)).toNat + 1)) h45 x15 x28 x41 x52 (none) (none) (none) (none) (none) F49 (by omega) ((by rw [show x52.toInt.toNat = 0 by omega]; exact aR_0 _ _ _)) (by omega)) rfl
  · have c43 : ¬ (x42.toInt < x15.toInt) := c43
    refine gw_ld rfl rfl ?_
    refine z_C (m := 30) rfl rfl (fun x54 ex54 => ?_)
    refine z_b2 (fun c55 => ?_) (fun c55 => ?_)
    · have c55 : x28.toInt ≤ x54.toInt := c55
      refine gw_skip _ ?_
      refine z_C (m := 0) rfl rfl (fun x56 ex56 => ?_)
      refine gw_st rfl rfl rfl ?_
      show ez_gw _ _ _ _ _ _ _ _ [some (.ref 71), some (.int x15), some (.int x28), some (.int x41), some (.int x56), none, none, none, none, none] _ _ _
      exact ez_Wp_at ((m_rl_L0  S M6 hb hf MC K (((2147483647 - x56.toInt)).toNat + 1)) h30 x15 x28 x41 x56 (none) (none) (none) (none) (none) F37 (by omega) ((by rw [show x56.toInt.toNat = 0 by omega]; exact aR_0 _ _ _)) (by omega)) rfl
    · have c55 : ¬ (x28.toInt ≤ x54.toInt) := c55
      refine gw_ld rfl rfl ?_
      refine z_C (m := 4) rfl rfl (fun x57 ex57 => ?_)
      refine z_cl rfl rfl rfl rfl rfl rfl rfl rfl rfl rfl rfl (zT S36 (by decide) rfl) ?_
      refine m_wrong S36 (n := x57) (by omega) (by omega) (fun h58  F59 k60 => ?_)
      have S61 := zG_sh F59 S36
      have F62 := zG_tr F37 (zG_mono F59 (fun k hk => by first | omega | exact False.elim hk) (fun k hk => by first | omega | exact False.elim hk))
      have f63 : ez_I h58 71 59 = (ez_I h30 71 59) := (zG_f F59 (by decide)).trans (rfl)
      have r64 := z_rng (ez_I h58 71 61)
      refine z_C (m := 0) rfl rfl (fun x65 ex65 => ?_)
      refine gw_st rfl rfl rfl ?_
      show ez_gw _ _ _ _ _ _ _ _ [some (.ref 71), some (.int x15), some (.int x28), some (.int x41), some (.int x65), none, none, none, none, none] _ _ _
      have t66 := congrArg Int32.toInt (f63)
      exact ez_Wp_at ((m_rl_L0  S M6 hb hf MC K (((2147483647 - x65.toInt)).toNat + 1)) h58 x15 x28 x41 x65 (none) (none) (none) (none) (none) F62 (by omega) ((by rw [show x65.toInt.toNat = 0 by omega]; exact aR_0 _ _ _)) (by omega)) rfl
set_option maxRecDepth 4000 in
set_option maxHeartbeats 20000000 in
theorem m_uc_L0 {E : Nat → Nat × (Nat → Int32)} {d : Nat} {Q : ez_Q} {h : ez_H}  (S : zSh h) (M6 : 0 ≤ (ez_I h 71 6).toInt ∧ (ez_I h 71 6).toInt ≤ 6000) (hb : 0 ≤ (ez_I h 71 59).toInt ∧ (ez_I h 71 59).toInt ≤ 8 * (ez_I h 71 6).toInt) (hf : 0 ≤ (ez_I h 71 61).toInt) (hg : 0 ≤ (ez_I h 71 60).toInt ∧ (ez_I h 71 60).toInt ≤ 6000) (MC : cC h) (hL : aR (ez_I h 120) 288 0 15) (hB : aR (ez_I h 121) 32 0 15) (K : ∀ h2, zG (fun k => k = 59 ∨ k = 60 ∨ k = 61) (fun q => q = 76 ∨ q = 115) h h2 → (0 ≤ (ez_I h2 71 59).toInt ∧ (ez_I h 71 59).toInt ≤ (ez_I h2 71 59).toInt ∧ (ez_I h2 71 59).toInt ≤ 8 * (ez_I h 71 6).toInt ∧ 0 ≤ (ez_I h2 71 61).toInt ∧ ((ez_I h2 71 61).toInt = 0 → (ez_I h 71 61).toInt = 0) ∧ 0 ≤ (ez_I h2 71 60).toInt ∧ (ez_I h2 71 60).toInt ≤ 6000) → Q (.inl none) h2) : ∀ N : Nat, (∀ (h2 : ez_H) (s : Int32) (l2 : Option Value) (l3 : Option Value) (l4 : Option Value) (l5 : Option Value) , zG (fun k => k = 59 ∨ k = 60 ∨ k = 61) (fun q => q = 76 ∨ q = 115) h h2 → (0 ≤ (ez_I h2 71 59).toInt ∧ (ez_I h 71 59).toInt ≤ (ez_I h2 71 59).toInt ∧ (ez_I h2 71 59).toInt ≤ 8 * (ez_I h 71 6).toInt ∧ 0 ≤ (ez_I h2 71 61).toInt ∧ ((ez_I h2 71 61).toInt = 0 → (ez_I h 71 61).toInt = 0) ∧ 0 ≤ (ez_I h2 71 60).toInt ∧ (ez_I h2 71 60).toInt ≤ 6000) → (1000 * (50000 - (ez_I h2 71 59).toInt)) < (N : Int) → pw E (d + 2) 59 2 [some (.ref 71), some (.int s), l2, l3, l4, l5] [] h2 Q) ∧ (∀ (h2 : ez_H) (s : Int32) (n : Int32) (dd : Int32) (bk : Int32) (i : Int32) , zG (fun k => k = 59 ∨ k = 60 ∨ k = 61) (fun q => q = 76 ∨ q = 115) h h2 → (0 ≤ i.toInt ∧ i.toInt ≤ n.toInt ∧ n.toInt ≤ 300 ∧ ((ez_I h2 71 61).toInt = 0 → 0 ≤ bk.toInt ∧ bk.toInt ≤ (ez_I h2 71 60).toInt) ∧ 0 ≤ (ez_I h2 71 59).toInt ∧ (ez_I h 71 59).toInt ≤ (ez_I h2 71 59).toInt ∧ (ez_I h2 71 59).toInt ≤ 8 * (ez_I h 71 6).toInt ∧ 0 ≤ (ez_I h2 71 61).toInt ∧ ((ez_I h2 71 61).toInt = 0 → (ez_I h 71 61).toInt = 0) ∧ 0 ≤ (ez_I h2 71 60).toInt ∧ (ez_I h2 71 60).toInt ≤ 6000) → (1000 * (50000 - (ez_I h2 71 59).toInt) + 400 + (300 - i.toInt)) < (N : Int) → pw E (d + 2) 59 200 [some (.ref 71), some (.int s), some (.int n), some (.int dd), some (.int bk), some (.int i)] [] h2 Q) := by
  intro N
  induction N with
  | zero => exact ⟨fun h2 s l2 l3 l4 l5  F hinv  hm => absurd hm (by have w_s := z_rng s; have MC1 := MC.1; omega), fun h2 s n dd bk i  F hinv  hm => absurd hm (by have w_s := z_rng s; have w_n := z_rng n; have w_dd := z_rng dd; have w_bk := z_rng bk; have w_i := z_rng i; have MC1 := MC.1; omega)⟩
  | succ N ih =>
    refine ⟨fun h2 s l2 l3 l4 l5  F hinv  hm => ?_, fun h2 s n dd bk i  F hinv  hm => ?_⟩
    · skip
      have w_s := z_rng s
      have MC1 := MC.1
      have S2 := zG_sh F S
      apply ez_Wp_in
      show ez_gw _ _ _ _ _ _ (cz_59) _ _ _ _ _
      refine gw_skip _ ?_
      have r1 := z_rng (ez_I h2 71 59)
      have r2 := z_rng (ez_I h2 71 60)
      have r3 := z_rng (ez_I h2 71 61)
      refine gw_ld rfl rfl ?_
      refine z_C (m := 256) rfl rfl (fun x4 ex4 => ?_)
      refine z_b2 (fun c5 => ?_) (fun c5 => ?_)
      · have c5 : s.toInt = x4.toInt := c5
        refine gw_skip _ ?_
        refine z_rv ?_
        exact K _ F (by omega)
      · have c5 : ¬ (s.toInt = x4.toInt) := c5
        refine gw_ld rfl rfl ?_
        refine z_gI2 (by decide) (zT S2 (by decide) rfl) (rfl) ?_
        refine z_b1 (fun c6 => ?_) (fun c6 => ?_)
        · have c6 : ((ez_I h2 71 61)).toInt ≠ 0 := c6
          refine gw_skip _ ?_
          refine z_rv ?_
          exact K _ F (by omega)
        · have c6 : ¬ (((ez_I h2 71 61)).toInt ≠ 0) := c6
          refine gw_ld rfl rfl ?_
          refine gw_ld rfl rfl ?_
          refine z_gR (q := 120) (zT S2 (by decide) rfl) (zRf S2 (by decide) (by decide) rfl) (by decide) ?_
          refine z_C (m := 288) rfl rfl (fun x7 ex7 => ?_)
          refine z_cl rfl rfl rfl rfl rfl rfl rfl rfl rfl rfl rfl (zT S2 (by decide) rfl) ?_
          refine m_sym S2 (n := x7) (show zA 120 288 from fun _ S => ⟨zT S (by decide) rfl, zN S (by decide) rfl⟩) (by decide) (by decide) (by omega) (by rw [zG_fn F 120 (by decide) (by omega)]; exact aR_le hL (by omega)) (by rw [zG_f F (k := 6) (by decide)]; exact M6) (by rw [show ez_I h2 71 6 = ez_I h 71 6 from zG_f F (by decide)]; omega) (by omega) (fun h8 x13 F9 k10 k11 k12 => ?_)
          have rx13 := z_rng x13
          rw [show ez_I h2 71 6 = ez_I h 71 6 from zG_f F (by decide)] at k11
          have S14 := zG_sh F9 S2
          have F15 := zG_tr F (zG_mono F9 (fun k hk => by first | omega | exact False.elim hk) (fun k hk => by first | omega | exact False.elim hk))
          have r16 := z_rng (ez_I h8 71 59)
          have f17 : ez_I h8 71 60 = (ez_I h2 71 60) := (zG_f F9 (by decide)).trans (rfl)
          have r18 := z_rng (ez_I h8 71 61)
          refine gw_st rfl rfl rfl ?_
          show ez_gw _ _ _ _ _ _ _ _ [some (.ref 71), some (.int x13), l2, l3, l4, l5] _ _ _
          refine gw_ld rfl rfl ?_
          refine z_gI2 (by decide) (zT S14 (by decide) rfl) (rfl) ?_
          refine z_b1 (fun c19 => ?_) (fun c19 => ?_)
          · have c19 : ((ez_I h8 71 61)).toInt ≤ 0 := c19
            refine gw_skip _ ?_
            refine gw_ld rfl rfl ?_
            refine z_C (m := 256) rfl rfl (fun x20 ex20 => ?_)
            refine z_b2 (fun c21 => ?_) (fun c21 => ?_)
            · have c21 : x20.toInt ≤ x13.toInt := c21
              refine gw_skip _ ?_
              refine gw_ld rfl rfl ?_
              refine z_C (m := 285) rfl rfl (fun x22 ex22 => ?_)
              refine z_b2 (fun c23 => ?_) (fun c23 => ?_)
              · have c23 : x13.toInt ≤ x22.toInt := c23
                refine gw_skip _ ?_
                refine gw_ld rfl rfl ?_
                refine z_C (m := 257) rfl rfl (fun x24 ex24 => ?_)
                refine z_b2 (fun c25 => ?_) (fun c25 => ?_)
                · have c25 : x13.toInt < x24.toInt := c25
                  have t26 := congrArg Int32.toInt (f17)
                  exact ih.1 h8 x13 (l2) (l3) (l4) (l5) F15 (by omega)  (by omega)
                · have c25 : ¬ (x13.toInt < x24.toInt) := c25
                  refine gw_ld rfl rfl ?_
                  refine z_gI2 (by decide) (zT S14 (by decide) rfl) (rfl) ?_
                  refine z_b1 (fun c27 => ?_) (fun c27 => ?_)
                  · have c27 : ((ez_I h8 71 61)).toInt ≤ 0 := c27
                    refine gw_skip _ ?_
                    refine gw_ld rfl rfl ?_
                    refine z_gR (q := 92) (zT S14 (by decide) rfl) (zRf S14 (by decide) (by decide) rfl) (by decide) ?_
                    refine gw_ld rfl rfl ?_
                    refine z_C (m := 257) rfl rfl (fun x28 ex28 => ?_)
                    refine z_sub (by omega) (fun x29 ex29 => ?_)
                    refine z_iaV (n := 29) (zT S14 (by decide) rfl) (zN S14 (by decide) rfl) (by omega) (zG_a F15 (by decide) (by decide)) ?_
                    generalize ex30 : ez_I h 92 x29.toInt.toNat = x30
                    have rx30 := z_rng x30
                    have yx30 := MC.2.1 x29.toInt.toNat (by omega)
                    rw [ex30] at yx30
                    refine gw_ld rfl rfl ?_
                    refine gw_ld rfl rfl ?_
                    refine z_gR (q := 93) (zT S14 (by decide) rfl) (zRf S14 (by decide) (by decide) rfl) (by decide) ?_
                    refine gw_ld rfl rfl ?_
                    refine z_C (m := 257) rfl rfl (fun x31 ex31 => ?_)
                    refine z_sub (by omega) (fun x32 ex32 => ?_)
                    refine z_iaV (n := 29) (zT S14 (by decide) rfl) (zN S14 (by decide) rfl) (by omega) (zG_a F15 (by decide) (by decide)) ?_
                    generalize ex33 : ez_I h 93 x32.toInt.toNat = x33
                    have rx33 := z_rng x33
                    have yx33 := MC.2.2.1 x32.toInt.toNat (by omega)
                    rw [ex33] at yx33
                    have t34 := congrArg Int32.toInt (f17)
                    refine z_cl rfl rfl rfl rfl rfl rfl rfl rfl rfl rfl rfl (zT S14 (by decide) rfl) ?_
                    refine m_tb S14 (n := x33) (by rw [zG_f F15 (k := 6) (by decide)]; exact M6) (by rw [show ez_I h8 71 6 = ez_I h 71 6 from zG_f F15 (by decide)]; omega) (by omega) (by omega) (fun h35 x40 F36 k37 k38 k39 => ?_)
                    have rx40 := z_rng x40
                    rw [show ez_I h8 71 6 = ez_I h 71 6 from zG_f F15 (by decide)] at k38
                    have S41 := zG_sh F36 S14
                    have F42 := zG_tr F15 (zG_mono F36 (fun k hk => by first | omega | exact False.elim hk) (fun k hk => by first | omega | exact False.elim hk))
                    have r43 := z_rng (ez_I h35 71 59)
                    have f44 : ez_I h35 71 60 = (ez_I h2 71 60) := (zG_f F36 (by decide)).trans (f17)
                    have r45 := z_rng (ez_I h35 71 61)
                    have k37_p := z_pow_le (a := x33.toInt.toNat) (b := 13) (by omega)
                    have : (2 : Int) ^ 13 = 8192 := rfl
                    have k37_q : x33.toInt ≤ 7 → (2 : Int) ^ x33.toInt.toNat ≤ 2 ^ 7 := fun q => z_pow_le (by omega)
                    have : (2 : Int) ^ 7 = 128 := rfl
                    have k37_r : x33.toInt ≤ 5 → (2 : Int) ^ x33.toInt.toNat ≤ 2 ^ 5 := fun q => z_pow_le (by omega)
                    have : (2 : Int) ^ 5 = 32 := rfl
                    refine z_add (by omega) (fun x46 ex46 => ?_)
                    refine gw_st rfl rfl rfl ?_
                    show ez_gw _ _ _ _ _ _ _ _ [some (.ref 71), some (.int x13), some (.int x46), l3, l4, l5] _ _ _
                    refine gw_ld rfl rfl ?_
                    refine z_gI2 (by decide) (zT S41 (by decide) rfl) (rfl) ?_
                    refine z_b1 (fun c47 => ?_) (fun c47 => ?_)
                    · have c47 : ((ez_I h35 71 61)).toInt ≤ 0 := c47
                      refine gw_skip _ ?_
                      refine gw_ld rfl rfl ?_
                      refine gw_ld rfl rfl ?_
                      refine z_gR (q := 121) (zT S41 (by decide) rfl) (zRf S41 (by decide) (by decide) rfl) (by decide) ?_
                      refine z_C (m := 32) rfl rfl (fun x48 ex48 => ?_)
                      have t49 := congrArg Int32.toInt (f44)
                      refine z_cl rfl rfl rfl rfl rfl rfl rfl rfl rfl rfl rfl (zT S41 (by decide) rfl) ?_
                      refine m_sym S41 (n := x48) (show zA 121 32 from fun _ S => ⟨zT S (by decide) rfl, zN S (by decide) rfl⟩) (by decide) (by decide) (by omega) (by rw [zG_fn F42 121 (by decide) (by omega)]; exact aR_le hB (by omega)) (by rw [zG_f F42 (k := 6) (by decide)]; exact M6) (by rw [show ez_I h35 71 6 = ez_I h 71 6 from zG_f F42 (by decide)]; omega) (by omega) (fun h50 x55 F51 k52 k53 k54 => ?_)
                      have rx55 := z_rng x55
                      rw [show ez_I h35 71 6 = ez_I h 71 6 from zG_f F42 (by decide)] at k53
                      have S56 := zG_sh F51 S41
                      have F57 := zG_tr F42 (zG_mono F51 (fun k hk => by first | omega | exact False.elim hk) (fun k hk => by first | omega | exact False.elim hk))
                      have r58 := z_rng (ez_I h50 71 59)
                      have f59 : ez_I h50 71 60 = (ez_I h2 71 60) := (zG_f F51 (by decide)).trans (f44)
                      have r60 := z_rng (ez_I h50 71 61)
                      refine gw_st rfl rfl rfl ?_
                      show ez_gw _ _ _ _ _ _ _ _ [some (.ref 71), some (.int x13), some (.int x46), some (.int x55), l4, l5] _ _ _
                      refine gw_ld rfl rfl ?_
                      refine z_gI2 (by decide) (zT S56 (by decide) rfl) (rfl) ?_
                      refine z_b1 (fun c61 => ?_) (fun c61 => ?_)
                      · have c61 : ((ez_I h50 71 61)).toInt ≠ 0 := c61
                        refine gw_skip _ ?_
                        refine gw_ld rfl rfl ?_
                        refine z_gI2 (by decide) (zT S56 (by decide) rfl) (rfl) ?_
                        refine z_b1 (fun c62 => ?_) (fun c62 => ?_)
                        · have c62 : ((ez_I h50 71 61)).toInt ≤ 0 := c62
                          refine gw_skip _ ?_
                          refine gw_ld rfl rfl ?_
                          refine z_gR (q := 94) (zT S56 (by decide) rfl) (zRf S56 (by decide) (by decide) rfl) (by decide) ?_
                          refine gw_ld rfl rfl ?_
                          refine z_iaV (n := 30) (zT S56 (by decide) rfl) (zN S56 (by decide) rfl) (by omega) (zG_a F57 (by decide) (by decide)) ?_
                          generalize ex63 : ez_I h 94 x55.toInt.toNat = x63
                          have rx63 := z_rng x63
                          have yx63 := MC.2.2.2.1 x55.toInt.toNat (by omega)
                          rw [ex63] at yx63
                          refine gw_ld rfl rfl ?_
                          refine gw_ld rfl rfl ?_
                          refine z_gR (q := 95) (zT S56 (by decide) rfl) (zRf S56 (by decide) (by decide) rfl) (by decide) ?_
                          refine gw_ld rfl rfl ?_
                          refine z_iaV (n := 30) (zT S56 (by decide) rfl) (zN S56 (by decide) rfl) (by omega) (zG_a F57 (by decide) (by decide)) ?_
                          generalize ex64 : ez_I h 95 x55.toInt.toNat = x64
                          have rx64 := z_rng x64
                          have yx64 := MC.2.2.2.2.1 x55.toInt.toNat (by omega)
                          rw [ex64] at yx64
                          have t65 := congrArg Int32.toInt (f59)
                          refine z_cl rfl rfl rfl rfl rfl rfl rfl rfl rfl rfl rfl (zT S56 (by decide) rfl) ?_
                          refine m_tb S56 (n := x64) (by rw [zG_f F57 (k := 6) (by decide)]; exact M6) (by rw [show ez_I h50 71 6 = ez_I h 71 6 from zG_f F57 (by decide)]; omega) (by omega) (by omega) (fun h66 x71 F67 k68 k69 k70 => ?_)
                          have rx71 := z_rng x71
                          rw [show ez_I h50 71 6 = ez_I h 71 6 from zG_f F57 (by decide)] at k69
                          have S72 := zG_sh F67 S56
                          have F73 := zG_tr F57 (zG_mono F67 (fun k hk => by first | omega | exact False.elim hk) (fun k hk => by first | omega | exact False.elim hk))
                          have r74 := z_rng (ez_I h66 71 59)
                          have f75 : ez_I h66 71 60 = (ez_I h2 71 60) := (zG_f F67 (by decide)).trans (f59)
                          have r76 := z_rng (ez_I h66 71 61)
                          have k68_p := z_pow_le (a := x64.toInt.toNat) (b := 13) (by omega)
                          have : (2 : Int) ^ 13 = 8192 := rfl
                          have k68_q : x64.toInt ≤ 7 → (2 : Int) ^ x64.toInt.toNat ≤ 2 ^ 7 := fun q => z_pow_le (by omega)
                          have : (2 : Int) ^ 7 = 128 := rfl
                          have k68_r : x64.toInt ≤ 5 → (2 : Int) ^ x64.toInt.toNat ≤ 2 ^ 5 := fun q => z_pow_le (by omega)
                          have : (2 : Int) ^ 5 = 32 := rfl
                          refine z_add (by omega) (fun x77 ex77 => ?_)
                          refine gw_st rfl rfl rfl ?_
                          show ez_gw _ _ _ _ _ _ _ _ [some (.ref 71), some (.int x13), some (.int x46), some (.int x55), some (.int x77), l5] _ _ _
                          refine gw_ld rfl rfl ?_
                          refine z_gI2 (by decide) (zT S72 (by decide) rfl) (rfl) ?_
                          refine z_b1 (fun c78 => ?_) (fun c78 => ?_)
                          · have c78 : ((ez_I h66 71 61)).toInt ≠ 0 := c78
                            refine gw_skip _ ?_
                            refine z_C (m := 0) rfl rfl (fun x79 ex79 => ?_)
                            refine gw_st rfl rfl rfl ?_
                            show ez_gw _ _ _ _ _ _ _ _ [some (.ref 71), some (.int x13), some (.int x46), some (.int x55), some (.int x77), some (.int x79)] _ _ _
                            have t80 := congrArg Int32.toInt (f75)
                            exact ez_Wp_at (ih.2 h66 x13 x46 x55 x77 x79 F73 (by omega)  (by omega)) rfl
                          · have c78 : ¬ (((ez_I h66 71 61)).toInt ≠ 0) := c78
                            refine gw_ld rfl rfl ?_
                            refine gw_ld rfl rfl ?_
                            refine z_gI2 (by decide) (zT S72 (by decide) rfl) (f75) ?_
                            refine z_b2 (fun c81 => ?_) (fun c81 => ?_)
                            · have c81 : x77.toInt ≤ ((ez_I h2 71 60)).toInt := c81
                              refine gw_skip _ ?_
                              refine z_C (m := 0) rfl rfl (fun x82 ex82 => ?_)
                              refine gw_st rfl rfl rfl ?_
                              show ez_gw _ _ _ _ _ _ _ _ [some (.ref 71), some (.int x13), some (.int x46), some (.int x55), some (.int x77), some (.int x82)] _ _ _
                              have t83 := congrArg Int32.toInt (f75)
                              exact ez_Wp_at (ih.2 h66 x13 x46 x55 x77 x82 F73 (by omega)  (by omega)) rfl
                            · have c81 : ¬ (x77.toInt ≤ ((ez_I h2 71 60)).toInt) := c81
                              refine gw_ld rfl rfl ?_
                              refine z_C (m := 8) rfl rfl (fun x84 ex84 => ?_)
                              have t85 := congrArg Int32.toInt (f75)
                              refine z_cl rfl rfl rfl rfl rfl rfl rfl rfl rfl rfl rfl (zT S72 (by decide) rfl) ?_
                              refine m_wrong S72 (n := x84) (by omega) (by omega) (fun h86  F87 k88 => ?_)
                              have S89 := zG_sh F87 S72
                              have F90 := zG_tr F73 (zG_mono F87 (fun k hk => by first | omega | exact False.elim hk) (fun k hk => by first | omega | exact False.elim hk))
                              have f91 : ez_I h86 71 59 = (ez_I h66 71 59) := (zG_f F87 (by decide)).trans (rfl)
                              have f92 : ez_I h86 71 60 = (ez_I h2 71 60) := (zG_f F87 (by decide)).trans (f75)
                              have r93 := z_rng (ez_I h86 71 61)
                              refine z_C (m := 0) rfl rfl (fun x94 ex94 => ?_)
                              refine gw_st rfl rfl rfl ?_
                              show ez_gw _ _ _ _ _ _ _ _ [some (.ref 71), some (.int x13), some (.int x46), some (.int x55), some (.int x77), some (.int x94)] _ _ _
                              have t95 := congrArg Int32.toInt (f91)
                              have t96 := congrArg Int32.toInt (f92)
                              exact ez_Wp_at (ih.2 h86 x13 x46 x55 x77 x94 F90 (by omega)  (by omega)) rfl
                        · have c62 : ¬ (((ez_I h50 71 61)).toInt ≤ 0) := c62
                          refine z_C (m := 0) rfl rfl (fun x97 ex97 => ?_)
                          refine z_go ?_
                          refine gw_skip _ ?_
                          refine gw_st rfl rfl rfl ?_
                          show ez_gw _ _ _ _ _ _ _ _ [some (.ref 71), some (.int x13), some (.int x46), some (.int x55), some (.int x97), l5] _ _ _
                          refine gw_ld rfl rfl ?_
                          refine z_gI2 (by decide) (zT S56 (by decide) rfl) (rfl) ?_
                          refine z_b1 (fun c98 => ?_) (fun c98 => ?_)
                          · have c98 : ((ez_I h50 71 61)).toInt ≠ 0 := c98
                            refine gw_skip _ ?_
                            refine z_C (m := 0) rfl rfl (fun x99 ex99 => ?_)
                            refine gw_st rfl rfl rfl ?_
                            show ez_gw _ _ _ _ _ _ _ _ [some (.ref 71), some (.int x13), some (.int x46), some (.int x55), some (.int x97), some (.int x99)] _ _ _
                            have t100 := congrArg Int32.toInt (f59)
                            exact ez_Wp_at (ih.2 h50 x13 x46 x55 x97 x99 F57 (by omega)  (by omega)) rfl
                          · have c98 : ¬ (((ez_I h50 71 61)).toInt ≠ 0) := c98
                            exfalso; omega
                      · have c61 : ¬ (((ez_I h50 71 61)).toInt ≠ 0) := c61
                        refine gw_ld rfl rfl ?_
                        refine z_C (m := 29) rfl rfl (fun x101 ex101 => ?_)
                        refine z_b2 (fun c102 => ?_) (fun c102 => ?_)
                        · have c102 : x55.toInt ≤ x101.toInt := c102
                          refine gw_skip _ ?_
                          refine gw_ld rfl rfl ?_
                          refine z_gI2 (by decide) (zT S56 (by decide) rfl) (rfl) ?_
                          refine z_b1 (fun c103 => ?_) (fun c103 => ?_)
                          · have c103 : ((ez_I h50 71 61)).toInt ≤ 0 := c103
                            refine gw_skip _ ?_
                            refine gw_ld rfl rfl ?_
                            refine z_gR (q := 94) (zT S56 (by decide) rfl) (zRf S56 (by decide) (by decide) rfl) (by decide) ?_
                            refine gw_ld rfl rfl ?_
                            refine z_iaV (n := 30) (zT S56 (by decide) rfl) (zN S56 (by decide) rfl) (by omega) (zG_a F57 (by decide) (by decide)) ?_
                            generalize ex104 : ez_I h 94 x55.toInt.toNat = x104
                            have rx104 := z_rng x104
                            have yx104 := MC.2.2.2.1 x55.toInt.toNat (by omega)
                            rw [ex104] at yx104
                            refine gw_ld rfl rfl ?_
                            refine gw_ld rfl rfl ?_
                            refine z_gR (q := 95) (zT S56 (by decide) rfl) (zRf S56 (by decide) (by decide) rfl) (by decide) ?_
                            refine gw_ld rfl rfl ?_
                            refine z_iaV (n := 30) (zT S56 (by decide) rfl) (zN S56 (by decide) rfl) (by omega) (zG_a F57 (by decide) (by decide)) ?_
                            generalize ex105 : ez_I h 95 x55.toInt.toNat = x105
                            have rx105 := z_rng x105
                            have yx105 := MC.2.2.2.2.1 x55.toInt.toNat (by omega)
                            rw [ex105] at yx105
                            have t106 := congrArg Int32.toInt (f59)
                            refine z_cl rfl rfl rfl rfl rfl rfl rfl rfl rfl rfl rfl (zT S56 (by decide) rfl) ?_
                            refine m_tb S56 (n := x105) (by rw [zG_f F57 (k := 6) (by decide)]; exact M6) (by rw [show ez_I h50 71 6 = ez_I h 71 6 from zG_f F57 (by decide)]; omega) (by omega) (by omega) (fun h107 x112 F108 k109 k110 k111 => ?_)
                            have rx112 := z_rng x112
                            rw [show ez_I h50 71 6 = ez_I h 71 6 from zG_f F57 (by decide)] at k110
                            have S113 := zG_sh F108 S56
                            have F114 := zG_tr F57 (zG_mono F108 (fun k hk => by first | omega | exact False.elim hk) (fun k hk => by first | omega | exact False.elim hk))
                            have r115 := z_rng (ez_I h107 71 59)
                            have f116 : ez_I h107 71 60 = (ez_I h2 71 60) := (zG_f F108 (by decide)).trans (f59)
                            have r117 := z_rng (ez_I h107 71 61)
                            have k109_p := z_pow_le (a := x105.toInt.toNat) (b := 13) (by omega)
                            have : (2 : Int) ^ 13 = 8192 := rfl
                            have k109_q : x105.toInt ≤ 7 → (2 : Int) ^ x105.toInt.toNat ≤ 2 ^ 7 := fun q => z_pow_le (by omega)
                            have : (2 : Int) ^ 7 = 128 := rfl
                            have k109_r : x105.toInt ≤ 5 → (2 : Int) ^ x105.toInt.toNat ≤ 2 ^ 5 := fun q => z_pow_le (by omega)
                            have : (2 : Int) ^ 5 = 32 := rfl
                            refine z_add (by omega) (fun x118 ex118 => ?_)
                            refine gw_st rfl rfl rfl ?_
                            show ez_gw _ _ _ _ _ _ _ _ [some (.ref 71), some (.int x13), some (.int x46), some (.int x55), some (.int x118), l5] _ _ _
                            refine gw_ld rfl rfl ?_
                            refine z_gI2 (by decide) (zT S113 (by decide) rfl) (rfl) ?_
                            refine z_b1 (fun c119 => ?_) (fun c119 => ?_)
                            · have c119 : ((ez_I h107 71 61)).toInt ≠ 0 := c119
                              refine gw_skip _ ?_
                              refine z_C (m := 0) rfl rfl (fun x120 ex120 => ?_)
                              refine gw_st rfl rfl rfl ?_
                              show ez_gw _ _ _ _ _ _ _ _ [some (.ref 71), some (.int x13), some (.int x46), some (.int x55), some (.int x118), some (.int x120)] _ _ _
                              have t121 := congrArg Int32.toInt (f116)
                              exact ez_Wp_at (ih.2 h107 x13 x46 x55 x118 x120 F114 (by omega)  (by omega)) rfl
                            · have c119 : ¬ (((ez_I h107 71 61)).toInt ≠ 0) := c119
                              refine gw_ld rfl rfl ?_
                              refine gw_ld rfl rfl ?_
                              refine z_gI2 (by decide) (zT S113 (by decide) rfl) (f116) ?_
                              refine z_b2 (fun c122 => ?_) (fun c122 => ?_)
                              · have c122 : x118.toInt ≤ ((ez_I h2 71 60)).toInt := c122
                                refine gw_skip _ ?_
                                refine z_C (m := 0) rfl rfl (fun x123 ex123 => ?_)
                                refine gw_st rfl rfl rfl ?_
                                show ez_gw _ _ _ _ _ _ _ _ [some (.ref 71), some (.int x13), some (.int x46), some (.int x55), some (.int x118), some (.int x123)] _ _ _
                                have t124 := congrArg Int32.toInt (f116)
                                exact ez_Wp_at (ih.2 h107 x13 x46 x55 x118 x123 F114 (by omega)  (by omega)) rfl
                              · have c122 : ¬ (x118.toInt ≤ ((ez_I h2 71 60)).toInt) := c122
                                refine gw_ld rfl rfl ?_
                                refine z_C (m := 8) rfl rfl (fun x125 ex125 => ?_)
                                have t126 := congrArg Int32.toInt (f116)
                                refine z_cl rfl rfl rfl rfl rfl rfl rfl rfl rfl rfl rfl (zT S113 (by decide) rfl) ?_
                                refine m_wrong S113 (n := x125) (by omega) (by omega) (fun h127  F128 k129 => ?_)
                                have S130 := zG_sh F128 S113
                                have F131 := zG_tr F114 (zG_mono F128 (fun k hk => by first | omega | exact False.elim hk) (fun k hk => by first | omega | exact False.elim hk))
                                have f132 : ez_I h127 71 59 = (ez_I h107 71 59) := (zG_f F128 (by decide)).trans (rfl)
                                have f133 : ez_I h127 71 60 = (ez_I h2 71 60) := (zG_f F128 (by decide)).trans (f116)
                                have r134 := z_rng (ez_I h127 71 61)
                                refine z_C (m := 0) rfl rfl (fun x135 ex135 => ?_)
                                refine gw_st rfl rfl rfl ?_
                                show ez_gw _ _ _ _ _ _ _ _ [some (.ref 71), some (.int x13), some (.int x46), some (.int x55), some (.int x118), some (.int x135)] _ _ _
                                have t136 := congrArg Int32.toInt (f132)
                                have t137 := congrArg Int32.toInt (f133)
                                exact ez_Wp_at (ih.2 h127 x13 x46 x55 x118 x135 F131 (by omega)  (by omega)) rfl
                          · have c103 : ¬ (((ez_I h50 71 61)).toInt ≤ 0) := c103
                            exfalso; omega
                        · have c102 : ¬ (x55.toInt ≤ x101.toInt) := c102
                          refine gw_ld rfl rfl ?_
                          refine z_C (m := 7) rfl rfl (fun x138 ex138 => ?_)
                          have t139 := congrArg Int32.toInt (f59)
                          refine z_cl rfl rfl rfl rfl rfl rfl rfl rfl rfl rfl rfl (zT S56 (by decide) rfl) ?_
                          refine m_wrong S56 (n := x138) (by omega) (by omega) (fun h140  F141 k142 => ?_)
                          have S143 := zG_sh F141 S56
                          have F144 := zG_tr F57 (zG_mono F141 (fun k hk => by first | omega | exact False.elim hk) (fun k hk => by first | omega | exact False.elim hk))
                          have f145 : ez_I h140 71 59 = (ez_I h50 71 59) := (zG_f F141 (by decide)).trans (rfl)
                          have f146 : ez_I h140 71 60 = (ez_I h2 71 60) := (zG_f F141 (by decide)).trans (f59)
                          have r147 := z_rng (ez_I h140 71 61)
                          refine gw_ld rfl rfl ?_
                          refine z_gI2 (by decide) (zT S143 (by decide) rfl) (rfl) ?_
                          refine z_b1 (fun c148 => ?_) (fun c148 => ?_)
                          · have c148 : ((ez_I h140 71 61)).toInt ≤ 0 := c148
                            refine gw_skip _ ?_
                            refine gw_ld rfl rfl ?_
                            refine z_gR (q := 94) (zT S143 (by decide) rfl) (zRf S143 (by decide) (by decide) rfl) (by decide) ?_
                            refine gw_ld rfl rfl ?_
                            refine z_iaV (n := 30) (zT S143 (by decide) rfl) (zN S143 (by decide) rfl) (by omega) (zG_a F144 (by decide) (by decide)) ?_
                            generalize ex149 : ez_I h 94 x55.toInt.toNat = x149
                            have rx149 := z_rng x149
                            have yx149 := MC.2.2.2.1 x55.toInt.toNat (by omega)
                            rw [ex149] at yx149
                            refine gw_ld rfl rfl ?_
                            refine gw_ld rfl rfl ?_
                            refine z_gR (q := 95) (zT S143 (by decide) rfl) (zRf S143 (by decide) (by decide) rfl) (by decide) ?_
                            refine gw_ld rfl rfl ?_
                            refine z_iaV (n := 30) (zT S143 (by decide) rfl) (zN S143 (by decide) rfl) (by omega) (zG_a F144 (by decide) (by decide)) ?_
                            generalize ex150 : ez_I h 95 x55.toInt.toNat = x150
                            have rx150 := z_rng x150
                            have yx150 := MC.2.2.2.2.1 x55.toInt.toNat (by omega)
                            rw [ex150] at yx150
                            have t151 := congrArg Int32.toInt (f145)
                            have t152 := congrArg Int32.toInt (f146)
                            refine z_cl rfl rfl rfl rfl rfl rfl rfl rfl rfl rfl rfl (zT S143 (by decide) rfl) ?_
                            refine m_tb S143 (n := x150) (by rw [zG_f F144 (k := 6) (by decide)]; exact M6) (by rw [show ez_I h140 71 6 = ez_I h 71 6 from zG_f F144 (by decide)]; omega) (by omega) (by omega) (fun h153 x158 F154 k155 k156 k157 => ?_)
                            have rx158 := z_rng x158
                            rw [show ez_I h140 71 6 = ez_I h 71 6 from zG_f F144 (by decide)] at k156
                            have S159 := zG_sh F154 S143
                            have F160 := zG_tr F144 (zG_mono F154 (fun k hk => by first | omega | exact False.elim hk) (fun k hk => by first | omega | exact False.elim hk))
                            have r161 := z_rng (ez_I h153 71 59)
                            have f162 : ez_I h153 71 60 = (ez_I h2 71 60) := (zG_f F154 (by decide)).trans (f146)
                            have r163 := z_rng (ez_I h153 71 61)
                            have k155_p := z_pow_le (a := x150.toInt.toNat) (b := 13) (by omega)
                            have : (2 : Int) ^ 13 = 8192 := rfl
                            have k155_q : x150.toInt ≤ 7 → (2 : Int) ^ x150.toInt.toNat ≤ 2 ^ 7 := fun q => z_pow_le (by omega)
                            have : (2 : Int) ^ 7 = 128 := rfl
                            have k155_r : x150.toInt ≤ 5 → (2 : Int) ^ x150.toInt.toNat ≤ 2 ^ 5 := fun q => z_pow_le (by omega)
                            have : (2 : Int) ^ 5 = 32 := rfl
                            refine z_add (by omega) (fun x164 ex164 => ?_)
                            refine gw_st rfl rfl rfl ?_
                            show ez_gw _ _ _ _ _ _ _ _ [some (.ref 71), some (.int x13), some (.int x46), some (.int x55), some (.int x164), l5] _ _ _
                            refine gw_ld rfl rfl ?_
                            refine z_gI2 (by decide) (zT S159 (by decide) rfl) (rfl) ?_
                            refine z_b1 (fun c165 => ?_) (fun c165 => ?_)
                            · have c165 : ((ez_I h153 71 61)).toInt ≠ 0 := c165
                              refine gw_skip _ ?_
                              refine z_C (m := 0) rfl rfl (fun x166 ex166 => ?_)
                              refine gw_st rfl rfl rfl ?_
                              show ez_gw _ _ _ _ _ _ _ _ [some (.ref 71), some (.int x13), some (.int x46), some (.int x55), some (.int x164), some (.int x166)] _ _ _
                              have t167 := congrArg Int32.toInt (f162)
                              exact ez_Wp_at (ih.2 h153 x13 x46 x55 x164 x166 F160 (by omega)  (by omega)) rfl
                            · have c165 : ¬ (((ez_I h153 71 61)).toInt ≠ 0) := c165
                              refine gw_ld rfl rfl ?_
                              refine gw_ld rfl rfl ?_
                              refine z_gI2 (by decide) (zT S159 (by decide) rfl) (f162) ?_
                              refine z_b2 (fun c168 => ?_) (fun c168 => ?_)
                              · have c168 : x164.toInt ≤ ((ez_I h2 71 60)).toInt := c168
                                refine gw_skip _ ?_
                                refine z_C (m := 0) rfl rfl (fun x169 ex169 => ?_)
                                refine gw_st rfl rfl rfl ?_
                                show ez_gw _ _ _ _ _ _ _ _ [some (.ref 71), some (.int x13), some (.int x46), some (.int x55), some (.int x164), some (.int x169)] _ _ _
                                have t170 := congrArg Int32.toInt (f162)
                                exact ez_Wp_at (ih.2 h153 x13 x46 x55 x164 x169 F160 (by omega)  (by omega)) rfl
                              · have c168 : ¬ (x164.toInt ≤ ((ez_I h2 71 60)).toInt) := c168
                                refine gw_ld rfl rfl ?_
                                refine z_C (m := 8) rfl rfl (fun x171 ex171 => ?_)
                                have t172 := congrArg Int32.toInt (f162)
                                refine z_cl rfl rfl rfl rfl rfl rfl rfl rfl rfl rfl rfl (zT S159 (by decide) rfl) ?_
                                refine m_wrong S159 (n := x171) (by omega) (by omega) (fun h173  F174 k175 => ?_)
                                have S176 := zG_sh F174 S159
                                have F177 := zG_tr F160 (zG_mono F174 (fun k hk => by first | omega | exact False.elim hk) (fun k hk => by first | omega | exact False.elim hk))
                                have f178 : ez_I h173 71 59 = (ez_I h153 71 59) := (zG_f F174 (by decide)).trans (rfl)
                                have f179 : ez_I h173 71 60 = (ez_I h2 71 60) := (zG_f F174 (by decide)).trans (f162)
                                have r180 := z_rng (ez_I h173 71 61)
                                refine z_C (m := 0) rfl rfl (fun x181 ex181 => ?_)
                                refine gw_st rfl rfl rfl ?_
                                show ez_gw _ _ _ _ _ _ _ _ [some (.ref 71), some (.int x13), some (.int x46), some (.int x55), some (.int x164), some (.int x181)] _ _ _
                                have t182 := congrArg Int32.toInt (f178)
                                have t183 := congrArg Int32.toInt (f179)
                                exact ez_Wp_at (ih.2 h173 x13 x46 x55 x164 x181 F177 (by omega)  (by omega)) rfl
                          · have c148 : ¬ (((ez_I h140 71 61)).toInt ≤ 0) := c148
                            refine z_C (m := 0) rfl rfl (fun x184 ex184 => ?_)
                            refine z_go ?_
                            refine gw_skip _ ?_
                            refine gw_st rfl rfl rfl ?_
                            show ez_gw _ _ _ _ _ _ _ _ [some (.ref 71), some (.int x13), some (.int x46), some (.int x55), some (.int x184), l5] _ _ _
                            refine gw_ld rfl rfl ?_
                            refine z_gI2 (by decide) (zT S143 (by decide) rfl) (rfl) ?_
                            refine z_b1 (fun c185 => ?_) (fun c185 => ?_)
                            · have c185 : ((ez_I h140 71 61)).toInt ≠ 0 := c185
                              refine gw_skip _ ?_
                              refine z_C (m := 0) rfl rfl (fun x186 ex186 => ?_)
                              refine gw_st rfl rfl rfl ?_
                              show ez_gw _ _ _ _ _ _ _ _ [some (.ref 71), some (.int x13), some (.int x46), some (.int x55), some (.int x184), some (.int x186)] _ _ _
                              have t187 := congrArg Int32.toInt (f145)
                              have t188 := congrArg Int32.toInt (f146)
                              exact ez_Wp_at (ih.2 h140 x13 x46 x55 x184 x186 F144 (by omega)  (by omega)) rfl
                            · have c185 : ¬ (((ez_I h140 71 61)).toInt ≠ 0) := c185
                              exfalso; omega
                    · have c47 : ¬ (((ez_I h35 71 61)).toInt ≤ 0) := c47
                      refine z_C (m := 0) rfl rfl (fun x189 ex189 => ?_)
                      refine z_go ?_
                      refine gw_skip _ ?_
                      refine gw_st rfl rfl rfl ?_
                      show ez_gw _ _ _ _ _ _ _ _ [some (.ref 71), some (.int x13), some (.int x46), some (.int x189), l4, l5] _ _ _
                      refine gw_ld rfl rfl ?_
                      refine z_gI2 (by decide) (zT S41 (by decide) rfl) (rfl) ?_
                      refine z_b1 (fun c190 => ?_) (fun c190 => ?_)
                      · have c190 : ((ez_I h35 71 61)).toInt ≠ 0 := c190
                        refine gw_skip _ ?_
                        refine gw_ld rfl rfl ?_
                        refine z_gI2 (by decide) (zT S41 (by decide) rfl) (rfl) ?_
                        refine z_b1 (fun c191 => ?_) (fun c191 => ?_)
                        · have c191 : ((ez_I h35 71 61)).toInt ≤ 0 := c191
                          exfalso; omega
                        · have c191 : ¬ (((ez_I h35 71 61)).toInt ≤ 0) := c191
                          refine z_C (m := 0) rfl rfl (fun x192 ex192 => ?_)
                          refine z_go ?_
                          refine gw_skip _ ?_
                          refine gw_st rfl rfl rfl ?_
                          show ez_gw _ _ _ _ _ _ _ _ [some (.ref 71), some (.int x13), some (.int x46), some (.int x189), some (.int x192), l5] _ _ _
                          refine gw_ld rfl rfl ?_
                          refine z_gI2 (by decide) (zT S41 (by decide) rfl) (rfl) ?_
                          refine z_b1 (fun c193 => ?_) (fun c193 => ?_)
                          · have c193 : ((ez_I h35 71 61)).toInt ≠ 0 := c193
                            refine gw_skip _ ?_
                            refine z_C (m := 0) rfl rfl (fun x194 ex194 => ?_)
                            refine gw_st rfl rfl rfl ?_
                            show ez_gw _ _ _ _ _ _ _ _ [some (.ref 71), some (.int x13), some (.int x46), some (.int x189), some (.int x192), some (.int x194)] _ _ _
                            have t195 := congrArg Int32.toInt (f44)
                            exact ez_Wp_at (ih.2 h35 x13 x46 x189 x192 x194 F42 (by omega)  (by omega)) rfl
                          · have c193 : ¬ (((ez_I h35 71 61)).toInt ≠ 0) := c193
                            exfalso; omega
                      · have c190 : ¬ (((ez_I h35 71 61)).toInt ≠ 0) := c190
                        exfalso; omega
                  · have c27 : ¬ (((ez_I h8 71 61)).toInt ≤ 0) := c27
                    exfalso; omega
              · have c23 : ¬ (x13.toInt ≤ x22.toInt) := c23
                refine gw_ld rfl rfl ?_
                refine z_C (m := 7) rfl rfl (fun x196 ex196 => ?_)
                have t197 := congrArg Int32.toInt (f17)
                refine z_cl rfl rfl rfl rfl rfl rfl rfl rfl rfl rfl rfl (zT S14 (by decide) rfl) ?_
                refine m_wrong S14 (n := x196) (by omega) (by omega) (fun h198  F199 k200 => ?_)
                have S201 := zG_sh F199 S14
                have F202 := zG_tr F15 (zG_mono F199 (fun k hk => by first | omega | exact False.elim hk) (fun k hk => by first | omega | exact False.elim hk))
                have f203 : ez_I h198 71 59 = (ez_I h8 71 59) := (zG_f F199 (by decide)).trans (rfl)
                have f204 : ez_I h198 71 60 = (ez_I h2 71 60) := (zG_f F199 (by decide)).trans (f17)
                have r205 := z_rng (ez_I h198 71 61)
                refine gw_ld rfl rfl ?_
                refine z_C (m := 257) rfl rfl (fun x206 ex206 => ?_)
                refine z_b2 (fun c207 => ?_) (fun c207 => ?_)
                · have c207 : x13.toInt < x206.toInt := c207
                  exfalso; omega
                · have c207 : ¬ (x13.toInt < x206.toInt) := c207
                  refine gw_ld rfl rfl ?_
                  refine z_gI2 (by decide) (zT S201 (by decide) rfl) (rfl) ?_
                  refine z_b1 (fun c208 => ?_) (fun c208 => ?_)
                  · have c208 : ((ez_I h198 71 61)).toInt ≤ 0 := c208
                    refine gw_skip _ ?_
                    refine gw_ld rfl rfl ?_
                    refine z_gR (q := 92) (zT S201 (by decide) rfl) (zRf S201 (by decide) (by decide) rfl) (by decide) ?_
                    refine gw_ld rfl rfl ?_
                    refine z_C (m := 257) rfl rfl (fun x209 ex209 => ?_)
                    refine z_sub (by omega) (fun x210 ex210 => ?_)
                    refine z_iaV (n := 29) (zT S201 (by decide) rfl) (zN S201 (by decide) rfl) (by omega) (zG_a F202 (by decide) (by decide)) ?_
                    generalize ex211 : ez_I h 92 x210.toInt.toNat = x211
                    have rx211 := z_rng x211
                    have yx211 := MC.2.1 x210.toInt.toNat (by omega)
                    rw [ex211] at yx211
                    refine gw_ld rfl rfl ?_
                    refine gw_ld rfl rfl ?_
                    refine z_gR (q := 93) (zT S201 (by decide) rfl) (zRf S201 (by decide) (by decide) rfl) (by decide) ?_
                    refine gw_ld rfl rfl ?_
                    refine z_C (m := 257) rfl rfl (fun x212 ex212 => ?_)
                    refine z_sub (by omega) (fun x213 ex213 => ?_)
                    refine z_iaV (n := 29) (zT S201 (by decide) rfl) (zN S201 (by decide) rfl) (by omega) (zG_a F202 (by decide) (by decide)) ?_
                    generalize ex214 : ez_I h 93 x213.toInt.toNat = x214
                    have rx214 := z_rng x214
                    have yx214 := MC.2.2.1 x213.toInt.toNat (by omega)
                    rw [ex214] at yx214
                    have t215 := congrArg Int32.toInt (f203)
                    have t216 := congrArg Int32.toInt (f204)
                    refine z_cl rfl rfl rfl rfl rfl rfl rfl rfl rfl rfl rfl (zT S201 (by decide) rfl) ?_
                    refine m_tb S201 (n := x214) (by rw [zG_f F202 (k := 6) (by decide)]; exact M6) (by rw [show ez_I h198 71 6 = ez_I h 71 6 from zG_f F202 (by decide)]; omega) (by omega) (by omega) (fun h217 x222 F218 k219 k220 k221 => ?_)
                    have rx222 := z_rng x222
                    rw [show ez_I h198 71 6 = ez_I h 71 6 from zG_f F202 (by decide)] at k220
                    have S223 := zG_sh F218 S201
                    have F224 := zG_tr F202 (zG_mono F218 (fun k hk => by first | omega | exact False.elim hk) (fun k hk => by first | omega | exact False.elim hk))
                    have r225 := z_rng (ez_I h217 71 59)
                    have f226 : ez_I h217 71 60 = (ez_I h2 71 60) := (zG_f F218 (by decide)).trans (f204)
                    have r227 := z_rng (ez_I h217 71 61)
                    have k219_p := z_pow_le (a := x214.toInt.toNat) (b := 13) (by omega)
                    have : (2 : Int) ^ 13 = 8192 := rfl
                    have k219_q : x214.toInt ≤ 7 → (2 : Int) ^ x214.toInt.toNat ≤ 2 ^ 7 := fun q => z_pow_le (by omega)
                    have : (2 : Int) ^ 7 = 128 := rfl
                    have k219_r : x214.toInt ≤ 5 → (2 : Int) ^ x214.toInt.toNat ≤ 2 ^ 5 := fun q => z_pow_le (by omega)
                    have : (2 : Int) ^ 5 = 32 := rfl
                    refine z_add (by omega) (fun x228 ex228 => ?_)
                    refine gw_st rfl rfl rfl ?_
                    show ez_gw _ _ _ _ _ _ _ _ [some (.ref 71), some (.int x13), some (.int x228), l3, l4, l5] _ _ _
                    refine gw_ld rfl rfl ?_
                    refine z_gI2 (by decide) (zT S223 (by decide) rfl) (rfl) ?_
                    refine z_b1 (fun c229 => ?_) (fun c229 => ?_)
                    · have c229 : ((ez_I h217 71 61)).toInt ≤ 0 := c229
                      refine gw_skip _ ?_
                      refine gw_ld rfl rfl ?_
                      refine gw_ld rfl rfl ?_
                      refine z_gR (q := 121) (zT S223 (by decide) rfl) (zRf S223 (by decide) (by decide) rfl) (by decide) ?_
                      refine z_C (m := 32) rfl rfl (fun x230 ex230 => ?_)
                      have t231 := congrArg Int32.toInt (f226)
                      refine z_cl rfl rfl rfl rfl rfl rfl rfl rfl rfl rfl rfl (zT S223 (by decide) rfl) ?_
                      refine m_sym S223 (n := x230) (show zA 121 32 from fun _ S => ⟨zT S (by decide) rfl, zN S (by decide) rfl⟩) (by decide) (by decide) (by omega) (by rw [zG_fn F224 121 (by decide) (by omega)]; exact aR_le hB (by omega)) (by rw [zG_f F224 (k := 6) (by decide)]; exact M6) (by rw [show ez_I h217 71 6 = ez_I h 71 6 from zG_f F224 (by decide)]; omega) (by omega) (fun h232 x237 F233 k234 k235 k236 => ?_)
                      have rx237 := z_rng x237
                      rw [show ez_I h217 71 6 = ez_I h 71 6 from zG_f F224 (by decide)] at k235
                      have S238 := zG_sh F233 S223
                      have F239 := zG_tr F224 (zG_mono F233 (fun k hk => by first | omega | exact False.elim hk) (fun k hk => by first | omega | exact False.elim hk))
                      have r240 := z_rng (ez_I h232 71 59)
                      have f241 : ez_I h232 71 60 = (ez_I h2 71 60) := (zG_f F233 (by decide)).trans (f226)
                      have r242 := z_rng (ez_I h232 71 61)
                      refine gw_st rfl rfl rfl ?_
                      show ez_gw _ _ _ _ _ _ _ _ [some (.ref 71), some (.int x13), some (.int x228), some (.int x237), l4, l5] _ _ _
                      refine gw_ld rfl rfl ?_
                      refine z_gI2 (by decide) (zT S238 (by decide) rfl) (rfl) ?_
                      refine z_b1 (fun c243 => ?_) (fun c243 => ?_)
                      · have c243 : ((ez_I h232 71 61)).toInt ≠ 0 := c243
                        refine gw_skip _ ?_
                        refine gw_ld rfl rfl ?_
                        refine z_gI2 (by decide) (zT S238 (by decide) rfl) (rfl) ?_
                        refine z_b1 (fun c244 => ?_) (fun c244 => ?_)
                        · have c244 : ((ez_I h232 71 61)).toInt ≤ 0 := c244
                          refine gw_skip _ ?_
                          refine gw_ld rfl rfl ?_
                          refine z_gR (q := 94) (zT S238 (by decide) rfl) (zRf S238 (by decide) (by decide) rfl) (by decide) ?_
                          refine gw_ld rfl rfl ?_
                          refine z_iaV (n := 30) (zT S238 (by decide) rfl) (zN S238 (by decide) rfl) (by omega) (zG_a F239 (by decide) (by decide)) ?_
                          generalize ex245 : ez_I h 94 x237.toInt.toNat = x245
                          have rx245 := z_rng x245
                          have yx245 := MC.2.2.2.1 x237.toInt.toNat (by omega)
                          rw [ex245] at yx245
                          refine gw_ld rfl rfl ?_
                          refine gw_ld rfl rfl ?_
                          refine z_gR (q := 95) (zT S238 (by decide) rfl) (zRf S238 (by decide) (by decide) rfl) (by decide) ?_
                          refine gw_ld rfl rfl ?_
                          refine z_iaV (n := 30) (zT S238 (by decide) rfl) (zN S238 (by decide) rfl) (by omega) (zG_a F239 (by decide) (by decide)) ?_
                          generalize ex246 : ez_I h 95 x237.toInt.toNat = x246
                          have rx246 := z_rng x246
                          have yx246 := MC.2.2.2.2.1 x237.toInt.toNat (by omega)
                          rw [ex246] at yx246
                          have t247 := congrArg Int32.toInt (f241)
                          refine z_cl rfl rfl rfl rfl rfl rfl rfl rfl rfl rfl rfl (zT S238 (by decide) rfl) ?_
                          refine m_tb S238 (n := x246) (by rw [zG_f F239 (k := 6) (by decide)]; exact M6) (by rw [show ez_I h232 71 6 = ez_I h 71 6 from zG_f F239 (by decide)]; omega) (by omega) (by omega) (fun h248 x253 F249 k250 k251 k252 => ?_)
                          have rx253 := z_rng x253
                          rw [show ez_I h232 71 6 = ez_I h 71 6 from zG_f F239 (by decide)] at k251
                          have S254 := zG_sh F249 S238
                          have F255 := zG_tr F239 (zG_mono F249 (fun k hk => by first | omega | exact False.elim hk) (fun k hk => by first | omega | exact False.elim hk))
                          have r256 := z_rng (ez_I h248 71 59)
                          have f257 : ez_I h248 71 60 = (ez_I h2 71 60) := (zG_f F249 (by decide)).trans (f241)
                          have r258 := z_rng (ez_I h248 71 61)
                          have k250_p := z_pow_le (a := x246.toInt.toNat) (b := 13) (by omega)
                          have : (2 : Int) ^ 13 = 8192 := rfl
                          have k250_q : x246.toInt ≤ 7 → (2 : Int) ^ x246.toInt.toNat ≤ 2 ^ 7 := fun q => z_pow_le (by omega)
                          have : (2 : Int) ^ 7 = 128 := rfl
                          have k250_r : x246.toInt ≤ 5 → (2 : Int) ^ x246.toInt.toNat ≤ 2 ^ 5 := fun q => z_pow_le (by omega)
                          have : (2 : Int) ^ 5 = 32 := rfl
                          refine z_add (by omega) (fun x259 ex259 => ?_)
                          refine gw_st rfl rfl rfl ?_
                          show ez_gw _ _ _ _ _ _ _ _ [some (.ref 71), some (.int x13), some (.int x228), some (.int x237), some (.int x259), l5] _ _ _
                          refine gw_ld rfl rfl ?_
                          refine z_gI2 (by decide) (zT S254 (by decide) rfl) (rfl) ?_
                          refine z_b1 (fun c260 => ?_) (fun c260 => ?_)
                          · have c260 : ((ez_I h248 71 61)).toInt ≠ 0 := c260
                            refine gw_skip _ ?_
                            refine z_C (m := 0) rfl rfl (fun x261 ex261 => ?_)
                            refine gw_st rfl rfl rfl ?_
                            show ez_gw _ _ _ _ _ _ _ _ [some (.ref 71), some (.int x13), some (.int x228), some (.int x237), some (.int x259), some (.int x261)] _ _ _
                            have t262 := congrArg Int32.toInt (f257)
                            exact ez_Wp_at (ih.2 h248 x13 x228 x237 x259 x261 F255 (by omega)  (by omega)) rfl
                          · have c260 : ¬ (((ez_I h248 71 61)).toInt ≠ 0) := c260
                            refine gw_ld rfl rfl ?_
                            refine gw_ld rfl rfl ?_
                            refine z_gI2 (by decide) (zT S254 (by decide) rfl) (f257) ?_
                            refine z_b2 (fun c263 => ?_) (fun c263 => ?_)
                            · have c263 : x259.toInt ≤ ((ez_I h2 71 60)).toInt := c263
                              refine gw_skip _ ?_
                              refine z_C (m := 0) rfl rfl (fun x264 ex264 => ?_)
                              refine gw_st rfl rfl rfl ?_
                              show ez_gw _ _ _ _ _ _ _ _ [some (.ref 71), some (.int x13), some (.int x228), some (.int x237), some (.int x259), some (.int x264)] _ _ _
                              have t265 := congrArg Int32.toInt (f257)
                              exact ez_Wp_at (ih.2 h248 x13 x228 x237 x259 x264 F255 (by omega)  (by omega)) rfl
                            · have c263 : ¬ (x259.toInt ≤ ((ez_I h2 71 60)).toInt) := c263
                              refine gw_ld rfl rfl ?_
                              refine z_C (m := 8) rfl rfl (fun x266 ex266 => ?_)
                              have t267 := congrArg Int32.toInt (f257)
                              refine z_cl rfl rfl rfl rfl rfl rfl rfl rfl rfl rfl rfl (zT S254 (by decide) rfl) ?_
                              refine m_wrong S254 (n := x266) (by omega) (by omega) (fun h268  F269 k270 => ?_)
                              have S271 := zG_sh F269 S254
                              have F272 := zG_tr F255 (zG_mono F269 (fun k hk => by first | omega | exact False.elim hk) (fun k hk => by first | omega | exact False.elim hk))
                              have f273 : ez_I h268 71 59 = (ez_I h248 71 59) := (zG_f F269 (by decide)).trans (rfl)
                              have f274 : ez_I h268 71 60 = (ez_I h2 71 60) := (zG_f F269 (by decide)).trans (f257)
                              have r275 := z_rng (ez_I h268 71 61)
                              refine z_C (m := 0) rfl rfl (fun x276 ex276 => ?_)
                              refine gw_st rfl rfl rfl ?_
                              show ez_gw _ _ _ _ _ _ _ _ [some (.ref 71), some (.int x13), some (.int x228), some (.int x237), some (.int x259), some (.int x276)] _ _ _
                              have t277 := congrArg Int32.toInt (f273)
                              have t278 := congrArg Int32.toInt (f274)
                              exact ez_Wp_at (ih.2 h268 x13 x228 x237 x259 x276 F272 (by omega)  (by omega)) rfl
                        · have c244 : ¬ (((ez_I h232 71 61)).toInt ≤ 0) := c244
                          refine z_C (m := 0) rfl rfl (fun x279 ex279 => ?_)
                          refine z_go ?_
                          refine gw_skip _ ?_
                          refine gw_st rfl rfl rfl ?_
                          show ez_gw _ _ _ _ _ _ _ _ [some (.ref 71), some (.int x13), some (.int x228), some (.int x237), some (.int x279), l5] _ _ _
                          refine gw_ld rfl rfl ?_
                          refine z_gI2 (by decide) (zT S238 (by decide) rfl) (rfl) ?_
                          refine z_b1 (fun c280 => ?_) (fun c280 => ?_)
                          · have c280 : ((ez_I h232 71 61)).toInt ≠ 0 := c280
                            refine gw_skip _ ?_
                            refine z_C (m := 0) rfl rfl (fun x281 ex281 => ?_)
                            refine gw_st rfl rfl rfl ?_
                            show ez_gw _ _ _ _ _ _ _ _ [some (.ref 71), some (.int x13), some (.int x228), some (.int x237), some (.int x279), some (.int x281)] _ _ _
                            have t282 := congrArg Int32.toInt (f241)
                            exact ez_Wp_at (ih.2 h232 x13 x228 x237 x279 x281 F239 (by omega)  (by omega)) rfl
                          · have c280 : ¬ (((ez_I h232 71 61)).toInt ≠ 0) := c280
                            exfalso; omega
                      · have c243 : ¬ (((ez_I h232 71 61)).toInt ≠ 0) := c243
                        refine gw_ld rfl rfl ?_
                        refine z_C (m := 29) rfl rfl (fun x283 ex283 => ?_)
                        refine z_b2 (fun c284 => ?_) (fun c284 => ?_)
                        · have c284 : x237.toInt ≤ x283.toInt := c284
                          refine gw_skip _ ?_
                          refine gw_ld rfl rfl ?_
                          refine z_gI2 (by decide) (zT S238 (by decide) rfl) (rfl) ?_
                          refine z_b1 (fun c285 => ?_) (fun c285 => ?_)
                          · have c285 : ((ez_I h232 71 61)).toInt ≤ 0 := c285
                            refine gw_skip _ ?_
                            refine gw_ld rfl rfl ?_
                            refine z_gR (q := 94) (zT S238 (by decide) rfl) (zRf S238 (by decide) (by decide) rfl) (by decide) ?_
                            refine gw_ld rfl rfl ?_
                            refine z_iaV (n := 30) (zT S238 (by decide) rfl) (zN S238 (by decide) rfl) (by omega) (zG_a F239 (by decide) (by decide)) ?_
                            generalize ex286 : ez_I h 94 x237.toInt.toNat = x286
                            have rx286 := z_rng x286
                            have yx286 := MC.2.2.2.1 x237.toInt.toNat (by omega)
                            rw [ex286] at yx286
                            refine gw_ld rfl rfl ?_
                            refine gw_ld rfl rfl ?_
                            refine z_gR (q := 95) (zT S238 (by decide) rfl) (zRf S238 (by decide) (by decide) rfl) (by decide) ?_
                            refine gw_ld rfl rfl ?_
                            refine z_iaV (n := 30) (zT S238 (by decide) rfl) (zN S238 (by decide) rfl) (by omega) (zG_a F239 (by decide) (by decide)) ?_
                            generalize ex287 : ez_I h 95 x237.toInt.toNat = x287
                            have rx287 := z_rng x287
                            have yx287 := MC.2.2.2.2.1 x237.toInt.toNat (by omega)
                            rw [ex287] at yx287
                            have t288 := congrArg Int32.toInt (f241)
                            refine z_cl rfl rfl rfl rfl rfl rfl rfl rfl rfl rfl rfl (zT S238 (by decide) rfl) ?_
                            refine m_tb S238 (n := x287) (by rw [zG_f F239 (k := 6) (by decide)]; exact M6) (by rw [show ez_I h232 71 6 = ez_I h 71 6 from zG_f F239 (by decide)]; omega) (by omega) (by omega) (fun h289 x294 F290 k291 k292 k293 => ?_)
                            have rx294 := z_rng x294
                            rw [show ez_I h232 71 6 = ez_I h 71 6 from zG_f F239 (by decide)] at k292
                            have S295 := zG_sh F290 S238
                            have F296 := zG_tr F239 (zG_mono F290 (fun k hk => by first | omega | exact False.elim hk) (fun k hk => by first | omega | exact False.elim hk))
                            have r297 := z_rng (ez_I h289 71 59)
                            have f298 : ez_I h289 71 60 = (ez_I h2 71 60) := (zG_f F290 (by decide)).trans (f241)
                            have r299 := z_rng (ez_I h289 71 61)
                            have k291_p := z_pow_le (a := x287.toInt.toNat) (b := 13) (by omega)
                            have : (2 : Int) ^ 13 = 8192 := rfl
                            have k291_q : x287.toInt ≤ 7 → (2 : Int) ^ x287.toInt.toNat ≤ 2 ^ 7 := fun q => z_pow_le (by omega)
                            have : (2 : Int) ^ 7 = 128 := rfl
                            have k291_r : x287.toInt ≤ 5 → (2 : Int) ^ x287.toInt.toNat ≤ 2 ^ 5 := fun q => z_pow_le (by omega)
                            have : (2 : Int) ^ 5 = 32 := rfl
                            refine z_add (by omega) (fun x300 ex300 => ?_)
                            refine gw_st rfl rfl rfl ?_
                            show ez_gw _ _ _ _ _ _ _ _ [some (.ref 71), some (.int x13), some (.int x228), some (.int x237), some (.int x300), l5] _ _ _
                            refine gw_ld rfl rfl ?_
                            refine z_gI2 (by decide) (zT S295 (by decide) rfl) (rfl) ?_
                            refine z_b1 (fun c301 => ?_) (fun c301 => ?_)
                            · have c301 : ((ez_I h289 71 61)).toInt ≠ 0 := c301
                              refine gw_skip _ ?_
                              refine z_C (m := 0) rfl rfl (fun x302 ex302 => ?_)
                              refine gw_st rfl rfl rfl ?_
                              show ez_gw _ _ _ _ _ _ _ _ [some (.ref 71), some (.int x13), some (.int x228), some (.int x237), some (.int x300), some (.int x302)] _ _ _
                              have t303 := congrArg Int32.toInt (f298)
                              exact ez_Wp_at (ih.2 h289 x13 x228 x237 x300 x302 F296 (by omega)  (by omega)) rfl
                            · have c301 : ¬ (((ez_I h289 71 61)).toInt ≠ 0) := c301
                              refine gw_ld rfl rfl ?_
                              refine gw_ld rfl rfl ?_
                              refine z_gI2 (by decide) (zT S295 (by decide) rfl) (f298) ?_
                              refine z_b2 (fun c304 => ?_) (fun c304 => ?_)
                              · have c304 : x300.toInt ≤ ((ez_I h2 71 60)).toInt := c304
                                refine gw_skip _ ?_
                                refine z_C (m := 0) rfl rfl (fun x305 ex305 => ?_)
                                refine gw_st rfl rfl rfl ?_
                                show ez_gw _ _ _ _ _ _ _ _ [some (.ref 71), some (.int x13), some (.int x228), some (.int x237), some (.int x300), some (.int x305)] _ _ _
                                have t306 := congrArg Int32.toInt (f298)
                                exact ez_Wp_at (ih.2 h289 x13 x228 x237 x300 x305 F296 (by omega)  (by omega)) rfl
                              · have c304 : ¬ (x300.toInt ≤ ((ez_I h2 71 60)).toInt) := c304
                                refine gw_ld rfl rfl ?_
                                refine z_C (m := 8) rfl rfl (fun x307 ex307 => ?_)
                                have t308 := congrArg Int32.toInt (f298)
                                refine z_cl rfl rfl rfl rfl rfl rfl rfl rfl rfl rfl rfl (zT S295 (by decide) rfl) ?_
                                refine m_wrong S295 (n := x307) (by omega) (by omega) (fun h309  F310 k311 => ?_)
                                have S312 := zG_sh F310 S295
                                have F313 := zG_tr F296 (zG_mono F310 (fun k hk => by first | omega | exact False.elim hk) (fun k hk => by first | omega | exact False.elim hk))
                                have f314 : ez_I h309 71 59 = (ez_I h289 71 59) := (zG_f F310 (by decide)).trans (rfl)
                                have f315 : ez_I h309 71 60 = (ez_I h2 71 60) := (zG_f F310 (by decide)).trans (f298)
                                have r316 := z_rng (ez_I h309 71 61)
                                refine z_C (m := 0) rfl rfl (fun x317 ex317 => ?_)
                                refine gw_st rfl rfl rfl ?_
                                show ez_gw _ _ _ _ _ _ _ _ [some (.ref 71), some (.int x13), some (.int x228), some (.int x237), some (.int x300), some (.int x317)] _ _ _
                                have t318 := congrArg Int32.toInt (f314)
                                have t319 := congrArg Int32.toInt (f315)
                                exact ez_Wp_at (ih.2 h309 x13 x228 x237 x300 x317 F313 (by omega)  (by omega)) rfl
                          · have c285 : ¬ (((ez_I h232 71 61)).toInt ≤ 0) := c285
                            exfalso; omega
                        · have c284 : ¬ (x237.toInt ≤ x283.toInt) := c284
                          refine gw_ld rfl rfl ?_
                          refine z_C (m := 7) rfl rfl (fun x320 ex320 => ?_)
                          have t321 := congrArg Int32.toInt (f241)
                          refine z_cl rfl rfl rfl rfl rfl rfl rfl rfl rfl rfl rfl (zT S238 (by decide) rfl) ?_
                          refine m_wrong S238 (n := x320) (by omega) (by omega) (fun h322  F323 k324 => ?_)
                          have S325 := zG_sh F323 S238
                          have F326 := zG_tr F239 (zG_mono F323 (fun k hk => by first | omega | exact False.elim hk) (fun k hk => by first | omega | exact False.elim hk))
                          have f327 : ez_I h322 71 59 = (ez_I h232 71 59) := (zG_f F323 (by decide)).trans (rfl)
                          have f328 : ez_I h322 71 60 = (ez_I h2 71 60) := (zG_f F323 (by decide)).trans (f241)
                          have r329 := z_rng (ez_I h322 71 61)
                          refine gw_ld rfl rfl ?_
                          refine z_gI2 (by decide) (zT S325 (by decide) rfl) (rfl) ?_
                          refine z_b1 (fun c330 => ?_) (fun c330 => ?_)
                          · have c330 : ((ez_I h322 71 61)).toInt ≤ 0 := c330
                            refine gw_skip _ ?_
                            refine gw_ld rfl rfl ?_
                            refine z_gR (q := 94) (zT S325 (by decide) rfl) (zRf S325 (by decide) (by decide) rfl) (by decide) ?_
                            refine gw_ld rfl rfl ?_
                            refine z_iaV (n := 30) (zT S325 (by decide) rfl) (zN S325 (by decide) rfl) (by omega) (zG_a F326 (by decide) (by decide)) ?_
                            generalize ex331 : ez_I h 94 x237.toInt.toNat = x331
                            have rx331 := z_rng x331
                            have yx331 := MC.2.2.2.1 x237.toInt.toNat (by omega)
                            rw [ex331] at yx331
                            refine gw_ld rfl rfl ?_
                            refine gw_ld rfl rfl ?_
                            refine z_gR (q := 95) (zT S325 (by decide) rfl) (zRf S325 (by decide) (by decide) rfl) (by decide) ?_
                            refine gw_ld rfl rfl ?_
                            refine z_iaV (n := 30) (zT S325 (by decide) rfl) (zN S325 (by decide) rfl) (by omega) (zG_a F326 (by decide) (by decide)) ?_
                            generalize ex332 : ez_I h 95 x237.toInt.toNat = x332
                            have rx332 := z_rng x332
                            have yx332 := MC.2.2.2.2.1 x237.toInt.toNat (by omega)
                            rw [ex332] at yx332
                            have t333 := congrArg Int32.toInt (f327)
                            have t334 := congrArg Int32.toInt (f328)
                            refine z_cl rfl rfl rfl rfl rfl rfl rfl rfl rfl rfl rfl (zT S325 (by decide) rfl) ?_
                            refine m_tb S325 (n := x332) (by rw [zG_f F326 (k := 6) (by decide)]; exact M6) (by rw [show ez_I h322 71 6 = ez_I h 71 6 from zG_f F326 (by decide)]; omega) (by omega) (by omega) (fun h335 x340 F336 k337 k338 k339 => ?_)
                            have rx340 := z_rng x340
                            rw [show ez_I h322 71 6 = ez_I h 71 6 from zG_f F326 (by decide)] at k338
                            have S341 := zG_sh F336 S325
                            have F342 := zG_tr F326 (zG_mono F336 (fun k hk => by first | omega | exact False.elim hk) (fun k hk => by first | omega | exact False.elim hk))
                            have r343 := z_rng (ez_I h335 71 59)
                            have f344 : ez_I h335 71 60 = (ez_I h2 71 60) := (zG_f F336 (by decide)).trans (f328)
                            have r345 := z_rng (ez_I h335 71 61)
                            have k337_p := z_pow_le (a := x332.toInt.toNat) (b := 13) (by omega)
                            have : (2 : Int) ^ 13 = 8192 := rfl
                            have k337_q : x332.toInt ≤ 7 → (2 : Int) ^ x332.toInt.toNat ≤ 2 ^ 7 := fun q => z_pow_le (by omega)
                            have : (2 : Int) ^ 7 = 128 := rfl
                            have k337_r : x332.toInt ≤ 5 → (2 : Int) ^ x332.toInt.toNat ≤ 2 ^ 5 := fun q => z_pow_le (by omega)
                            have : (2 : Int) ^ 5 = 32 := rfl
                            refine z_add (by omega) (fun x346 ex346 => ?_)
                            refine gw_st rfl rfl rfl ?_
                            show ez_gw _ _ _ _ _ _ _ _ [some (.ref 71), some (.int x13), some (.int x228), some (.int x237), some (.int x346), l5] _ _ _
                            refine gw_ld rfl rfl ?_
                            refine z_gI2 (by decide) (zT S341 (by decide) rfl) (rfl) ?_
                            refine z_b1 (fun c347 => ?_) (fun c347 => ?_)
                            · have c347 : ((ez_I h335 71 61)).toInt ≠ 0 := c347
                              refine gw_skip _ ?_
                              refine z_C (m := 0) rfl rfl (fun x348 ex348 => ?_)
                              refine gw_st rfl rfl rfl ?_
                              show ez_gw _ _ _ _ _ _ _ _ [some (.ref 71), some (.int x13), some (.int x228), some (.int x237), some (.int x346), some (.int x348)] _ _ _
                              have t349 := congrArg Int32.toInt (f344)
                              exact ez_Wp_at (ih.2 h335 x13 x228 x237 x346 x348 F342 (by omega)  (by omega)) rfl
                            · have c347 : ¬ (((ez_I h335 71 61)).toInt ≠ 0) := c347
                              refine gw_ld rfl rfl ?_
                              refine gw_ld rfl rfl ?_
                              refine z_gI2 (by decide) (zT S341 (by decide) rfl) (f344) ?_
                              refine z_b2 (fun c350 => ?_) (fun c350 => ?_)
                              · have c350 : x346.toInt ≤ ((ez_I h2 71 60)).toInt := c350
                                refine gw_skip _ ?_
                                refine z_C (m := 0) rfl rfl (fun x351 ex351 => ?_)
                                refine gw_st rfl rfl rfl ?_
                                show ez_gw _ _ _ _ _ _ _ _ [some (.ref 71), some (.int x13), some (.int x228), some (.int x237), some (.int x346), some (.int x351)] _ _ _
                                have t352 := congrArg Int32.toInt (f344)
                                exact ez_Wp_at (ih.2 h335 x13 x228 x237 x346 x351 F342 (by omega)  (by omega)) rfl
                              · have c350 : ¬ (x346.toInt ≤ ((ez_I h2 71 60)).toInt) := c350
                                refine gw_ld rfl rfl ?_
                                refine z_C (m := 8) rfl rfl (fun x353 ex353 => ?_)
                                have t354 := congrArg Int32.toInt (f344)
                                refine z_cl rfl rfl rfl rfl rfl rfl rfl rfl rfl rfl rfl (zT S341 (by decide) rfl) ?_
                                refine m_wrong S341 (n := x353) (by omega) (by omega) (fun h355  F356 k357 => ?_)
                                have S358 := zG_sh F356 S341
                                have F359 := zG_tr F342 (zG_mono F356 (fun k hk => by first | omega | exact False.elim hk) (fun k hk => by first | omega | exact False.elim hk))
                                have f360 : ez_I h355 71 59 = (ez_I h335 71 59) := (zG_f F356 (by decide)).trans (rfl)
                                have f361 : ez_I h355 71 60 = (ez_I h2 71 60) := (zG_f F356 (by decide)).trans (f344)
                                have r362 := z_rng (ez_I h355 71 61)
                                refine z_C (m := 0) rfl rfl (fun x363 ex363 => ?_)
                                refine gw_st rfl rfl rfl ?_
                                show ez_gw _ _ _ _ _ _ _ _ [some (.ref 71), some (.int x13), some (.int x228), some (.int x237), some (.int x346), some (.int x363)] _ _ _
                                have t364 := congrArg Int32.toInt (f360)
                                have t365 := congrArg Int32.toInt (f361)
                                exact ez_Wp_at (ih.2 h355 x13 x228 x237 x346 x363 F359 (by omega)  (by omega)) rfl
                          · have c330 : ¬ (((ez_I h322 71 61)).toInt ≤ 0) := c330
                            refine z_C (m := 0) rfl rfl (fun x366 ex366 => ?_)
                            refine z_go ?_
                            refine gw_skip _ ?_
                            refine gw_st rfl rfl rfl ?_
                            show ez_gw _ _ _ _ _ _ _ _ [some (.ref 71), some (.int x13), some (.int x228), some (.int x237), some (.int x366), l5] _ _ _
                            refine gw_ld rfl rfl ?_
                            refine z_gI2 (by decide) (zT S325 (by decide) rfl) (rfl) ?_
                            refine z_b1 (fun c367 => ?_) (fun c367 => ?_)
                            · have c367 : ((ez_I h322 71 61)).toInt ≠ 0 := c367
                              refine gw_skip _ ?_
                              refine z_C (m := 0) rfl rfl (fun x368 ex368 => ?_)
                              refine gw_st rfl rfl rfl ?_
                              show ez_gw _ _ _ _ _ _ _ _ [some (.ref 71), some (.int x13), some (.int x228), some (.int x237), some (.int x366), some (.int x368)] _ _ _
                              have t369 := congrArg Int32.toInt (f327)
                              have t370 := congrArg Int32.toInt (f328)
                              exact ez_Wp_at (ih.2 h322 x13 x228 x237 x366 x368 F326 (by omega)  (by omega)) rfl
                            · have c367 : ¬ (((ez_I h322 71 61)).toInt ≠ 0) := c367
                              exfalso; omega
                    · have c229 : ¬ (((ez_I h217 71 61)).toInt ≤ 0) := c229
                      refine z_C (m := 0) rfl rfl (fun x371 ex371 => ?_)
                      refine z_go ?_
                      refine gw_skip _ ?_
                      refine gw_st rfl rfl rfl ?_
                      show ez_gw _ _ _ _ _ _ _ _ [some (.ref 71), some (.int x13), some (.int x228), some (.int x371), l4, l5] _ _ _
                      refine gw_ld rfl rfl ?_
                      refine z_gI2 (by decide) (zT S223 (by decide) rfl) (rfl) ?_
                      refine z_b1 (fun c372 => ?_) (fun c372 => ?_)
                      · have c372 : ((ez_I h217 71 61)).toInt ≠ 0 := c372
                        refine gw_skip _ ?_
                        refine gw_ld rfl rfl ?_
                        refine z_gI2 (by decide) (zT S223 (by decide) rfl) (rfl) ?_
                        refine z_b1 (fun c373 => ?_) (fun c373 => ?_)
                        · have c373 : ((ez_I h217 71 61)).toInt ≤ 0 := c373
                          exfalso; omega
                        · have c373 : ¬ (((ez_I h217 71 61)).toInt ≤ 0) := c373
                          refine z_C (m := 0) rfl rfl (fun x374 ex374 => ?_)
                          refine z_go ?_
                          refine gw_skip _ ?_
                          refine gw_st rfl rfl rfl ?_
                          show ez_gw _ _ _ _ _ _ _ _ [some (.ref 71), some (.int x13), some (.int x228), some (.int x371), some (.int x374), l5] _ _ _
                          refine gw_ld rfl rfl ?_
                          refine z_gI2 (by decide) (zT S223 (by decide) rfl) (rfl) ?_
                          refine z_b1 (fun c375 => ?_) (fun c375 => ?_)
                          · have c375 : ((ez_I h217 71 61)).toInt ≠ 0 := c375
                            refine gw_skip _ ?_
                            refine z_C (m := 0) rfl rfl (fun x376 ex376 => ?_)
                            refine gw_st rfl rfl rfl ?_
                            show ez_gw _ _ _ _ _ _ _ _ [some (.ref 71), some (.int x13), some (.int x228), some (.int x371), some (.int x374), some (.int x376)] _ _ _
                            have t377 := congrArg Int32.toInt (f226)
                            exact ez_Wp_at (ih.2 h217 x13 x228 x371 x374 x376 F224 (by omega)  (by omega)) rfl
                          · have c375 : ¬ (((ez_I h217 71 61)).toInt ≠ 0) := c375
                            exfalso; omega
                      · have c372 : ¬ (((ez_I h217 71 61)).toInt ≠ 0) := c372
                        exfalso; omega
                  · have c208 : ¬ (((ez_I h198 71 61)).toInt ≤ 0) := c208
                    refine z_go ?_
                    have t378 := congrArg Int32.toInt (f203)
                    have t379 := congrArg Int32.toInt (f204)
                    exact ih.1 h198 x13 (l2) (l3) (l4) (l5) F202 (by omega)  (by omega)
            · have c21 : ¬ (x20.toInt ≤ x13.toInt) := c21
              refine gw_ld rfl rfl ?_
              refine gw_ld rfl rfl ?_
              have t380 := congrArg Int32.toInt (f17)
              refine z_cl rfl rfl rfl rfl rfl rfl rfl rfl rfl rfl rfl (zT S14 (by decide) rfl) ?_
              refine m_give S14 (n := x13) (by omega) (by omega) (fun h381  F382 k383 => ?_)
              have S384 := zG_sh F382 S14
              have F385 := zG_tr F15 (zG_mono F382 (fun k hk => by first | omega | exact False.elim hk) (fun k hk => by first | omega | exact False.elim hk))
              have f386 : ez_I h381 71 59 = (ez_I h8 71 59) := (zG_f F382 (by decide)).trans (rfl)
              have r387 := z_rng (ez_I h381 71 60)
              have r388 := z_rng (ez_I h381 71 61)
              refine gw_ld rfl rfl ?_
              refine z_C (m := 285) rfl rfl (fun x389 ex389 => ?_)
              refine z_b2 (fun c390 => ?_) (fun c390 => ?_)
              · have c390 : x13.toInt ≤ x389.toInt := c390
                refine gw_skip _ ?_
                refine gw_ld rfl rfl ?_
                refine z_C (m := 257) rfl rfl (fun x391 ex391 => ?_)
                refine z_b2 (fun c392 => ?_) (fun c392 => ?_)
                · have c392 : x13.toInt < x391.toInt := c392
                  have t393 := congrArg Int32.toInt (f386)
                  exact ih.1 h381 x13 (l2) (l3) (l4) (l5) F385 (by omega)  (by omega)
                · have c392 : ¬ (x13.toInt < x391.toInt) := c392
                  exfalso; omega
              · have c390 : ¬ (x13.toInt ≤ x389.toInt) := c390
                exfalso; omega
          · have c19 : ¬ (((ez_I h8 71 61)).toInt ≤ 0) := c19
            refine z_rv ?_
            have t394 := congrArg Int32.toInt (f17)
            exact K _ F15 (by omega)
    · skip
      have w_s := z_rng s
      have w_n := z_rng n
      have w_dd := z_rng dd
      have w_bk := z_rng bk
      have w_i := z_rng i
      have MC1 := MC.1
      have S2 := zG_sh F S
      apply ez_Wp_in
      show ez_gw _ _ _ _ _ _ (cz_59) _ _ _ _ _
      refine gw_skip _ ?_
      have r395 := z_rng (ez_I h2 71 59)
      have r396 := z_rng (ez_I h2 71 60)
      have r397 := z_rng (ez_I h2 71 61)
      refine gw_ld rfl rfl ?_
      refine gw_ld rfl rfl ?_
      refine z_b2 (fun c398 => ?_) (fun c398 => ?_)
      · have c398 : n.toInt ≤ i.toInt := c398
        refine gw_skip _ ?_
        refine z_go ?_
        exact ih.1 h2 s (some (.int n)) (some (.int dd)) (some (.int bk)) (some (.int i)) F (by omega)  (by omega)
      · have c398 : ¬ (n.toInt ≤ i.toInt) := c398
        refine gw_ld rfl rfl ?_
        refine z_gI2 (by decide) (zT S2 (by decide) rfl) (rfl) ?_
        refine z_b1 (fun c399 => ?_) (fun c399 => ?_)
        · have c399 : ((ez_I h2 71 61)).toInt ≠ 0 := c399
          refine gw_skip _ ?_
          refine z_go ?_
          exact ih.1 h2 s (some (.int n)) (some (.int dd)) (some (.int bk)) (some (.int i)) F (by omega)  (by omega)
        · have c399 : ¬ (((ez_I h2 71 61)).toInt ≠ 0) := c399
          refine gw_ld rfl rfl ?_
          refine gw_ld rfl rfl ?_
          refine z_gR (q := 76) (zT S2 (by decide) rfl) (zRf S2 (by decide) (by decide) rfl) (by decide) ?_
          refine gw_ld rfl rfl ?_
          refine z_gI2 (by decide) (zT S2 (by decide) rfl) (rfl) ?_
          refine z_C (m := 6000) rfl rfl (fun x400 ex400 => ?_)
          refine z_b2 (fun c401 => ?_) (fun c401 => ?_)
          · have c401 : ((ez_I h2 71 60)).toInt ≠ x400.toInt := c401
            refine gw_skip _ ?_
            refine gw_ld rfl rfl ?_
            refine z_gI2 (by decide) (zT S2 (by decide) rfl) (rfl) ?_
            refine gw_ld rfl rfl ?_
            refine z_sub (by omega) (fun x402 ex402 => ?_)
            refine z_ba (n := 6000) (zT S2 (by decide) rfl) (zN S2 (by decide) rfl) (by omega) ?_
            generalize ex403 : ez_I h2 76 x402.toInt.toNat = x403
            have rx403 := z_rng x403
            refine z_cl rfl rfl rfl rfl rfl rfl rfl rfl rfl rfl rfl (zT S2 (by decide) rfl) ?_
            refine m_give S2 (n := x403) (by omega) (by omega) (fun h404  F405 k406 => ?_)
            have S407 := zG_sh F405 S2
            have F408 := zG_tr F (zG_mono F405 (fun k hk => by first | omega | exact False.elim hk) (fun k hk => by first | omega | exact False.elim hk))
            have f409 : ez_I h404 71 59 = (ez_I h2 71 59) := (zG_f F405 (by decide)).trans (rfl)
            have r410 := z_rng (ez_I h404 71 60)
            have r411 := z_rng (ez_I h404 71 61)
            refine z_inc rfl (by rw [show (1 : Int32).toInt = 1 from rfl]; omega) (fun x412 ex412 => ?_)
            rw [show (1 : Int32).toInt = 1 from rfl] at ex412
            show ez_gw _ _ _ _ _ _ _ _ [some (.ref 71), some (.int s), some (.int n), some (.int dd), some (.int bk), some (.int x412)] _ _ _
            refine z_go ?_
            have t413 := congrArg Int32.toInt (f409)
            exact ih.2 h404 s n dd bk x412 F408 (by omega)  (by omega)
          · have c401 : ¬ (((ez_I h2 71 60)).toInt ≠ x400.toInt) := c401
            refine z_C (m := 0) rfl rfl (fun x414 ex414 => ?_)
            refine z_go ?_
            refine gw_skip _ ?_
            refine z_ba (n := 6000) (zT S2 (by decide) rfl) (zN S2 (by decide) rfl) (by omega) ?_
            generalize ex415 : ez_I h2 76 x414.toInt.toNat = x415
            have rx415 := z_rng x415
            refine z_cl rfl rfl rfl rfl rfl rfl rfl rfl rfl rfl rfl (zT S2 (by decide) rfl) ?_
            refine m_give S2 (n := x415) (by omega) (by omega) (fun h416  F417 k418 => ?_)
            have S419 := zG_sh F417 S2
            have F420 := zG_tr F (zG_mono F417 (fun k hk => by first | omega | exact False.elim hk) (fun k hk => by first | omega | exact False.elim hk))
            have f421 : ez_I h416 71 59 = (ez_I h2 71 59) := (zG_f F417 (by decide)).trans (rfl)
            have r422 := z_rng (ez_I h416 71 60)
            have r423 := z_rng (ez_I h416 71 61)
            refine z_inc rfl (by rw [show (1 : Int32).toInt = 1 from rfl]; omega) (fun x424 ex424 => ?_)
            rw [show (1 : Int32).toInt = 1 from rfl] at ex424
            show ez_gw _ _ _ _ _ _ _ _ [some (.ref 71), some (.int s), some (.int n), some (.int dd), some (.int bk), some (.int x424)] _ _ _
            refine z_go ?_
            have t425 := congrArg Int32.toInt (f421)
            exact ih.2 h416 s n dd bk x424 F420 (by omega)  (by omega)
set_option maxRecDepth 4000 in
set_option maxHeartbeats 20000000 in
theorem m_uc {E : Nat → Nat × (Nat → Int32)} {d : Nat} {Q : ez_Q} {h : ez_H}  (S : zSh h) (M6 : 0 ≤ (ez_I h 71 6).toInt ∧ (ez_I h 71 6).toInt ≤ 6000) (hb : 0 ≤ (ez_I h 71 59).toInt ∧ (ez_I h 71 59).toInt ≤ 8 * (ez_I h 71 6).toInt) (hf : 0 ≤ (ez_I h 71 61).toInt) (hg : 0 ≤ (ez_I h 71 60).toInt ∧ (ez_I h 71 60).toInt ≤ 6000) (MC : cC h) (hL : aR (ez_I h 120) 288 0 15) (hB : aR (ez_I h 121) 32 0 15) (K : ∀ h2, zG (fun k => k = 59 ∨ k = 60 ∨ k = 61) (fun q => q = 76 ∨ q = 115) h h2 → (0 ≤ (ez_I h2 71 59).toInt ∧ (ez_I h 71 59).toInt ≤ (ez_I h2 71 59).toInt ∧ (ez_I h2 71 59).toInt ≤ 8 * (ez_I h 71 6).toInt ∧ 0 ≤ (ez_I h2 71 61).toInt ∧ ((ez_I h2 71 61).toInt = 0 → (ez_I h 71 61).toInt = 0) ∧ 0 ≤ (ez_I h2 71 60).toInt ∧ (ez_I h2 71 60).toInt ≤ 6000) → Q (.inl none) h2) : pw E (d + 2) 59 0 [some (.ref 71), none, none, none, none, none] [] h Q := by
  have MC1 := MC.1
  have F := zG_refl (fun k => k = 59 ∨ k = 60 ∨ k = 61) (fun q => q = 76 ∨ q = 115) h
  apply ez_Wp_in
  show ez_gw _ _ _ _ _ _ (cz_59) _ _ _ _ _
  refine gw_skip _ ?_
  have r1 := z_rng (ez_I h 71 59)
  have r2 := z_rng (ez_I h 71 60)
  have r3 := z_rng (ez_I h 71 61)
  refine z_C (m := 0) rfl rfl (fun x4 ex4 => ?_)
  refine gw_st rfl rfl rfl ?_
  show ez_gw _ _ _ _ _ _ _ _ [some (.ref 71), some (.int x4), none, none, none, none] _ _ _
  exact ez_Wp_at ((m_uc_L0  S M6 hb hf hg MC hL hB K (((1000 * (50000 - (ez_I h 71 59).toInt))).toNat + 1)).1 h x4 (none) (none) (none) (none) F (by omega)  (by omega)) rfl
set_option maxRecDepth 4000 in
set_option maxHeartbeats 20000000 in
theorem m_unpack_L1 {E : Nat → Nat × (Nat → Int32)} {d : Nat} {Q : ez_Q} {h : ez_H}  (S : zSh h) (M : mI h) (K : ∀ h2 (x : Int32), zF zY h h2 → mI h2 → Q (.inl (some (.int x))) h2) : ∀ N : Nat, (∀ (h2 : ez_H) (la : Int32) (i : Int32) (l3 : Option Value) , zG (fun k => k = 0 ∨ k = 7 ∨ k = 59 ∨ k = 60 ∨ k = 61 ∨ k = 62 ∨ k = 63) (fun q => q = 73 ∨ q = 76 ∨ q = 115 ∨ 120 ≤ q ∧ q ≤ 123) h h2 → (0 ≤ i.toInt ∧ (ez_I h2 71 7).toInt = (ez_I h2 71 60).toInt ∧ 0 ≤ (ez_I h2 71 60).toInt ∧ (ez_I h2 71 60).toInt ≤ 6000) → (2147483647 - i.toInt) < (N : Int) → pw E (d + 3) 60 263 [some (.ref 71), some (.int la), some (.int i), l3] [] h2 Q) := by
  intro N
  induction N with
  | zero => exact fun h2 la i l3  F hinv  hm => absurd hm (by have w_la := z_rng la; have w_i := z_rng i; have M6 := M.1.1; have M7 := M.1.2.1; have M14 := M.1.2.2.1; have M15 := M.1.2.2.2; have MC := M.2; omega)
  | succ N ih =>
    refine fun h2 la i l3  F hinv  hm => ?_
    · skip
      have w_la := z_rng la
      have w_i := z_rng i
      have M6 := M.1.1
      have M7 := M.1.2.1
      have M14 := M.1.2.2.1
      have M15 := M.1.2.2.2
      have MC := M.2
      have S2 := zG_sh F S
      apply ez_Wp_in
      show ez_gw _ _ _ _ _ _ (cz_60) _ _ _ _ _
      refine gw_skip _ ?_
      have r1 := z_rng (ez_I h2 71 0)
      have r2 := z_rng (ez_I h2 71 7)
      have r3 := z_rng (ez_I h2 71 59)
      have r4 := z_rng (ez_I h2 71 60)
      have r5 := z_rng (ez_I h2 71 61)
      have r6 := z_rng (ez_I h2 71 62)
      have r7 := z_rng (ez_I h2 71 63)
      refine gw_ld rfl rfl ?_
      refine gw_ld rfl rfl ?_
      refine z_gI2 (by decide) (zT S2 (by decide) rfl) (rfl) ?_
      refine z_b2 (fun c8 => ?_) (fun c8 => ?_)
      · have c8 : ((ez_I h2 71 60)).toInt ≤ i.toInt := c8
        refine gw_skip _ ?_
        refine gw_ld rfl rfl ?_
        refine z_gI2 (by decide) (zT S2 (by decide) rfl) (rfl) ?_
        refine z_ri ?_
        have t9 := congrArg Int32.toInt (zG_f F (k := 6) (by decide))
        have t10 := congrArg Int32.toInt (zG_f F (k := 14) (by decide))
        have t11 := congrArg Int32.toInt (zG_f F (k := 15) (by decide))
        exact K _ (ez_I h2 71 7) (zG_Y F (fun q hq => by first | omega | exact False.elim hq)) (mI_G M F (fun q hq => by first | omega | exact fun c => c) (by omega)) 
      · have c8 : ¬ (((ez_I h2 71 60)).toInt ≤ i.toInt) := c8
        refine gw_ld rfl rfl ?_
        refine z_gR (q := 73) (zT S2 (by decide) rfl) (zRf S2 (by decide) (by decide) rfl) (by decide) ?_
        refine gw_ld rfl rfl ?_
        refine gw_ld rfl rfl ?_
        refine z_gR (q := 76) (zT S2 (by decide) rfl) (zRf S2 (by decide) (by decide) rfl) (by decide) ?_
        refine gw_ld rfl rfl ?_
        refine z_ba (n := 6000) (zT S2 (by decide) rfl) (zN S2 (by decide) rfl) (by omega) ?_
        generalize ex12 : ez_I h2 76 i.toInt.toNat = x12
        have rx12 := z_rng x12
        refine z_bs (n := 6200) (zT S2 (by decide) rfl) (zN S2 (by decide) rfl) (by omega) (fun h13 e14 => ?_)
        have S15 := zSh_set S2 e14
        have F16 := zG_setA F e14 (by decide) (by decide)
        have f17 : ez_I h13 71 0 = (ez_I h2 71 0) := (zI_ne e14 (by omega)).trans (rfl)
        have f18 : ez_I h13 71 7 = (ez_I h2 71 7) := (zI_ne e14 (by omega)).trans (rfl)
        have f19 : ez_I h13 71 59 = (ez_I h2 71 59) := (zI_ne e14 (by omega)).trans (rfl)
        have f20 : ez_I h13 71 60 = (ez_I h2 71 60) := (zI_ne e14 (by omega)).trans (rfl)
        have f21 : ez_I h13 71 61 = (ez_I h2 71 61) := (zI_ne e14 (by omega)).trans (rfl)
        have f22 : ez_I h13 71 62 = (ez_I h2 71 62) := (zI_ne e14 (by omega)).trans (rfl)
        have f23 : ez_I h13 71 63 = (ez_I h2 71 63) := (zI_ne e14 (by omega)).trans (rfl)
        refine z_inc rfl (by rw [show (1 : Int32).toInt = 1 from rfl]; omega) (fun x24 ex24 => ?_)
        rw [show (1 : Int32).toInt = 1 from rfl] at ex24
        show ez_gw _ _ _ _ _ _ _ _ [some (.ref 71), some (.int la), some (.int x24), l3] _ _ _
        refine z_go ?_
        have t25 := congrArg Int32.toInt (f17)
        have t26 := congrArg Int32.toInt (f18)
        have t27 := congrArg Int32.toInt (f19)
        have t28 := congrArg Int32.toInt (f20)
        have t29 := congrArg Int32.toInt (f21)
        have t30 := congrArg Int32.toInt (f22)
        have t31 := congrArg Int32.toInt (f23)
        exact ih h13 la x24 (l3) F16 (by omega)  (by omega)
set_option maxRecDepth 4000 in
set_option maxHeartbeats 20000000 in
theorem m_unpack_L0 {E : Nat → Nat × (Nat → Int32)} {d : Nat} {Q : ez_Q} {h : ez_H}  (S : zSh h) (M : mI h) (K : ∀ h2 (x : Int32), zF zY h h2 → mI h2 → Q (.inl (some (.int x))) h2) : ∀ N : Nat, (∀ (h2 : ez_H) (la : Int32) (l2 : Option Value) (l3 : Option Value) (fl : Nat), zG (fun k => k = 0 ∨ k = 7 ∨ k = 59 ∨ k = 60 ∨ k = 61 ∨ k = 62 ∨ k = 63) (fun q => q = 73 ∨ q = 76 ∨ q = 115 ∨ 120 ≤ q ∧ q ≤ 123) h h2 → (0 ≤ (ez_I h2 71 7).toInt ∧ (ez_I h2 71 7).toInt ≤ 6200 ∧ fl ≤ 1 ∧ ((ez_I h2 71 61).toInt = 0 → fl = 1) ∧ 0 ≤ (ez_I h2 71 59).toInt ∧ (ez_I h2 71 59).toInt ≤ 8 * (ez_I h 71 6).toInt ∧ 0 ≤ (ez_I h2 71 61).toInt ∧ 0 ≤ (ez_I h2 71 60).toInt ∧ (ez_I h2 71 60).toInt ≤ 6000) → (1000 * (50000 - (ez_I h2 71 59).toInt) + 10 * (fl : Int)) < (N : Int) → pw E (d + 3) 60 17 [some (.ref 71), some (.int la), l2, l3] [] h2 Q) ∧ (∀ (h2 : ez_H) (la : Int32) (kd : Int32) (i : Int32) , zG (fun k => k = 0 ∨ k = 7 ∨ k = 59 ∨ k = 60 ∨ k = 61 ∨ k = 62 ∨ k = 63) (fun q => q = 73 ∨ q = 76 ∨ q = 115 ∨ 120 ≤ q ∧ q ≤ 123) h h2 → (0 ≤ (ez_I h2 71 7).toInt ∧ (ez_I h2 71 7).toInt ≤ 6200 ∧ (ez_I h2 71 61).toInt = 0 ∧ kd.toInt = 1 ∧ 0 ≤ i.toInt ∧ i.toInt ≤ 288 ∧ 0 ≤ (ez_I h2 71 59).toInt ∧ (ez_I h2 71 59).toInt ≤ 8 * (ez_I h 71 6).toInt ∧ 0 ≤ (ez_I h2 71 61).toInt ∧ 0 ≤ (ez_I h2 71 60).toInt ∧ (ez_I h2 71 60).toInt ≤ 6000) → aR (ez_I h2 120) i.toInt.toNat 0 15 → (1000 * (50000 - (ez_I h2 71 59).toInt) + 400 + (288 - i.toInt)) < (N : Int) → pw E (d + 3) 60 84 [some (.ref 71), some (.int la), some (.int kd), some (.int i)] [] h2 Q) ∧ (∀ (h2 : ez_H) (la : Int32) (kd : Int32) (i : Int32) , zG (fun k => k = 0 ∨ k = 7 ∨ k = 59 ∨ k = 60 ∨ k = 61 ∨ k = 62 ∨ k = 63) (fun q => q = 73 ∨ q = 76 ∨ q = 115 ∨ 120 ≤ q ∧ q ≤ 123) h h2 → (0 ≤ (ez_I h2 71 7).toInt ∧ (ez_I h2 71 7).toInt ≤ 6200 ∧ (ez_I h2 71 61).toInt = 0 ∧ kd.toInt = 1 ∧ 0 ≤ i.toInt ∧ i.toInt ≤ 32 ∧ 0 ≤ (ez_I h2 71 59).toInt ∧ (ez_I h2 71 59).toInt ≤ 8 * (ez_I h 71 6).toInt ∧ 0 ≤ (ez_I h2 71 61).toInt ∧ 0 ≤ (ez_I h2 71 60).toInt ∧ (ez_I h2 71 60).toInt ≤ 6000) → aR (ez_I h2 120) 288 0 15 → aR (ez_I h2 121) i.toInt.toNat 0 15 → (1000 * (50000 - (ez_I h2 71 59).toInt) + 100 + (32 - i.toInt)) < (N : Int) → pw E (d + 3) 60 143 [some (.ref 71), some (.int la), some (.int kd), some (.int i)] [] h2 Q) := by
  intro N
  induction N with
  | zero => exact ⟨fun h2 la l2 l3 fl F hinv  hm => absurd hm (by have w_la := z_rng la; have M6 := M.1.1; have M7 := M.1.2.1; have M14 := M.1.2.2.1; have M15 := M.1.2.2.2; have MC := M.2; omega), fun h2 la kd i  F hinv A_L hm => absurd hm (by have w_la := z_rng la; have w_kd := z_rng kd; have w_i := z_rng i; have M6 := M.1.1; have M7 := M.1.2.1; have M14 := M.1.2.2.1; have M15 := M.1.2.2.2; have MC := M.2; omega), fun h2 la kd i  F hinv A_L A_B hm => absurd hm (by have w_la := z_rng la; have w_kd := z_rng kd; have w_i := z_rng i; have M6 := M.1.1; have M7 := M.1.2.1; have M14 := M.1.2.2.1; have M15 := M.1.2.2.2; have MC := M.2; omega)⟩
  | succ N ih =>
    refine ⟨fun h2 la l2 l3 fl F hinv  hm => ?_, fun h2 la kd i  F hinv A_L hm => ?_, fun h2 la kd i  F hinv A_L A_B hm => ?_⟩
    · skip
      have w_la := z_rng la
      have M6 := M.1.1
      have M7 := M.1.2.1
      have M14 := M.1.2.2.1
      have M15 := M.1.2.2.2
      have MC := M.2
      have S2 := zG_sh F S
      apply ez_Wp_in
      show ez_gw _ _ _ _ _ _ (cz_60) _ _ _ _ _
      refine gw_skip _ ?_
      have r1 := z_rng (ez_I h2 71 0)
      have r2 := z_rng (ez_I h2 71 7)
      have r3 := z_rng (ez_I h2 71 59)
      have r4 := z_rng (ez_I h2 71 60)
      have r5 := z_rng (ez_I h2 71 61)
      have r6 := z_rng (ez_I h2 71 62)
      have r7 := z_rng (ez_I h2 71 63)
      refine gw_ld rfl rfl ?_
      refine z_b1 (fun c8 => ?_) (fun c8 => ?_)
      · have c8 : la.toInt ≠ 0 := c8
        refine gw_skip _ ?_
        refine gw_ld rfl rfl ?_
        refine gw_ld rfl rfl ?_
        refine z_gI2 (by decide) (zT S2 (by decide) rfl) (rfl) ?_
        refine z_pI (zT S2 (by decide) rfl) (fun h9 e10 => ?_)
        have S11 := zSh_set S2 e10
        have F12 := zG_setF F e10 (by decide)
        have f13 : ez_I h9 71 0 = (ez_I h2 71 0) := (zI_ne e10 (by decide)).trans (rfl)
        have f14 : ez_I h9 71 7 = (ez_I h2 71 7) := (zI_ne e10 (by decide)).trans (rfl)
        have f15 : ez_I h9 71 59 = (ez_I h2 71 59) := (zI_ne e10 (by decide)).trans (rfl)
        have f16 : ez_I h9 71 60 = (ez_I h2 71 60) := (zI_ne e10 (by decide)).trans (rfl)
        have f17 : ez_I h9 71 61 = (ez_I h2 71 61) := (zI_ne e10 (by decide)).trans (rfl)
        have f18 : ez_I h9 71 62 = (ez_I h2 71 61) := zI_eq e10
        have f19 : ez_I h9 71 63 = (ez_I h2 71 63) := (zI_ne e10 (by decide)).trans (rfl)
        refine gw_ld rfl rfl ?_
        refine gw_ld rfl rfl ?_
        refine z_gI2 (by decide) (zT S11 (by decide) rfl) (f18) ?_
        refine z_b1 (fun c20 => ?_) (fun c20 => ?_)
        · have c20 : ((ez_I h2 71 61)).toInt ≤ 0 := c20
          refine gw_skip _ ?_
          refine z_C (m := -1) rfl rfl (fun x21 ex21 => ?_)
          refine z_pI (zT S11 (by decide) rfl) (fun h22 e23 => ?_)
          have S24 := zSh_set S11 e23
          have F25 := zG_setF F12 e23 (by decide)
          have f26 : ez_I h22 71 0 = (ez_I h2 71 0) := (zI_ne e23 (by decide)).trans (f13)
          have f27 : ez_I h22 71 7 = (ez_I h2 71 7) := (zI_ne e23 (by decide)).trans (f14)
          have f28 : ez_I h22 71 59 = (ez_I h2 71 59) := (zI_ne e23 (by decide)).trans (f15)
          have f29 : ez_I h22 71 60 = (ez_I h2 71 60) := (zI_ne e23 (by decide)).trans (f16)
          have f30 : ez_I h22 71 61 = (ez_I h2 71 61) := (zI_ne e23 (by decide)).trans (f17)
          have f31 : ez_I h22 71 62 = (ez_I h2 71 61) := (zI_ne e23 (by decide)).trans (f18)
          have f32 : ez_I h22 71 63 = x21 := zI_eq e23
          refine gw_ld rfl rfl ?_
          refine gw_ld rfl rfl ?_
          refine z_gI2 (by decide) (zT S24 (by decide) rfl) (f31) ?_
          refine z_b1 (fun c33 => ?_) (fun c33 => ?_)
          · have c33 : ((ez_I h2 71 61)).toInt ≤ 0 := c33
            refine gw_skip _ ?_
            refine z_C (m := 0) rfl rfl (fun x34 ex34 => ?_)
            refine z_pI (zT S24 (by decide) rfl) (fun h35 e36 => ?_)
            have S37 := zSh_set S24 e36
            have F38 := zG_setF F25 e36 (by decide)
            have f39 : ez_I h35 71 0 = x34 := zI_eq e36
            have f40 : ez_I h35 71 7 = (ez_I h2 71 7) := (zI_ne e36 (by decide)).trans (f27)
            have f41 : ez_I h35 71 59 = (ez_I h2 71 59) := (zI_ne e36 (by decide)).trans (f28)
            have f42 : ez_I h35 71 60 = (ez_I h2 71 60) := (zI_ne e36 (by decide)).trans (f29)
            have f43 : ez_I h35 71 61 = (ez_I h2 71 61) := (zI_ne e36 (by decide)).trans (f30)
            have f44 : ez_I h35 71 62 = (ez_I h2 71 61) := (zI_ne e36 (by decide)).trans (f31)
            have f45 : ez_I h35 71 63 = x21 := (zI_ne e36 (by decide)).trans (f32)
            refine gw_ld rfl rfl ?_
            refine z_gI2 (by decide) (zT S37 (by decide) rfl) (f39) ?_
            refine z_b1 (fun c46 => ?_) (fun c46 => ?_)
            · have c46 : x34.toInt ≤ 0 := c46
              refine gw_skip _ ?_
              refine gw_ld rfl rfl ?_
              refine gw_ld rfl rfl ?_
              refine z_gI2 (by decide) (zT S37 (by decide) rfl) (f42) ?_
              refine z_pI (zT S37 (by decide) rfl) (fun h47 e48 => ?_)
              have S49 := zSh_set S37 e48
              have F50 := zG_setF F38 e48 (by decide)
              have f51 : ez_I h47 71 0 = x34 := (zI_ne e48 (by decide)).trans (f39)
              have f52 : ez_I h47 71 7 = (ez_I h2 71 60) := zI_eq e48
              have f53 : ez_I h47 71 59 = (ez_I h2 71 59) := (zI_ne e48 (by decide)).trans (f41)
              have f54 : ez_I h47 71 60 = (ez_I h2 71 60) := (zI_ne e48 (by decide)).trans (f42)
              have f55 : ez_I h47 71 61 = (ez_I h2 71 61) := (zI_ne e48 (by decide)).trans (f43)
              have f56 : ez_I h47 71 62 = (ez_I h2 71 61) := (zI_ne e48 (by decide)).trans (f44)
              have f57 : ez_I h47 71 63 = x21 := (zI_ne e48 (by decide)).trans (f45)
              refine z_C (m := 0) rfl rfl (fun x58 ex58 => ?_)
              refine gw_st rfl rfl rfl ?_
              show ez_gw _ _ _ _ _ _ _ _ [some (.ref 71), some (.int la), some (.int x58), l3] _ _ _
              have t59 := congrArg Int32.toInt (f51)
              have t60 := congrArg Int32.toInt (f52)
              have t61 := congrArg Int32.toInt (f53)
              have t62 := congrArg Int32.toInt (f54)
              have t63 := congrArg Int32.toInt (f55)
              have t64 := congrArg Int32.toInt (f56)
              have t65 := congrArg Int32.toInt (f57)
              exact ez_Wp_at ((m_unpack_L1  S M K (((2147483647 - x58.toInt)).toNat + 1)) h47 la x58 (l3) F50 (by omega)  (by omega)) rfl
            · have c46 : ¬ (x34.toInt ≤ 0) := c46
              exfalso; omega
          · have c33 : ¬ (((ez_I h2 71 61)).toInt ≤ 0) := c33
            exfalso; omega
        · have c20 : ¬ (((ez_I h2 71 61)).toInt ≤ 0) := c20
          refine gw_ld rfl rfl ?_
          refine z_gI2 (by decide) (zT S11 (by decide) rfl) (f15) ?_
          refine z_C (m := 7) rfl rfl (fun x66 ex66 => ?_)
          refine z_add (by omega) (fun x67 ex67 => ?_)
          refine z_C (m := 8) rfl rfl (fun x68 ex68 => ?_)
          refine z_dvP (c := 8) ex68 (by decide) (by omega) (fun x69 ex69 => ?_)
          refine z_go ?_
          refine gw_skip _ ?_
          refine z_pI (zT S11 (by decide) rfl) (fun h70 e71 => ?_)
          have S72 := zSh_set S11 e71
          have F73 := zG_setF F12 e71 (by decide)
          have f74 : ez_I h70 71 0 = (ez_I h2 71 0) := (zI_ne e71 (by decide)).trans (f13)
          have f75 : ez_I h70 71 7 = (ez_I h2 71 7) := (zI_ne e71 (by decide)).trans (f14)
          have f76 : ez_I h70 71 59 = (ez_I h2 71 59) := (zI_ne e71 (by decide)).trans (f15)
          have f77 : ez_I h70 71 60 = (ez_I h2 71 60) := (zI_ne e71 (by decide)).trans (f16)
          have f78 : ez_I h70 71 61 = (ez_I h2 71 61) := (zI_ne e71 (by decide)).trans (f17)
          have f79 : ez_I h70 71 62 = (ez_I h2 71 61) := (zI_ne e71 (by decide)).trans (f18)
          have f80 : ez_I h70 71 63 = x69 := zI_eq e71
          refine gw_ld rfl rfl ?_
          refine gw_ld rfl rfl ?_
          refine z_gI2 (by decide) (zT S72 (by decide) rfl) (f79) ?_
          refine z_b1 (fun c81 => ?_) (fun c81 => ?_)
          · have c81 : ((ez_I h2 71 61)).toInt ≤ 0 := c81
            exfalso; omega
          · have c81 : ¬ (((ez_I h2 71 61)).toInt ≤ 0) := c81
            refine z_C (m := 1) rfl rfl (fun x82 ex82 => ?_)
            refine z_go ?_
            refine gw_skip _ ?_
            refine z_pI (zT S72 (by decide) rfl) (fun h83 e84 => ?_)
            have S85 := zSh_set S72 e84
            have F86 := zG_setF F73 e84 (by decide)
            have f87 : ez_I h83 71 0 = x82 := zI_eq e84
            have f88 : ez_I h83 71 7 = (ez_I h2 71 7) := (zI_ne e84 (by decide)).trans (f75)
            have f89 : ez_I h83 71 59 = (ez_I h2 71 59) := (zI_ne e84 (by decide)).trans (f76)
            have f90 : ez_I h83 71 60 = (ez_I h2 71 60) := (zI_ne e84 (by decide)).trans (f77)
            have f91 : ez_I h83 71 61 = (ez_I h2 71 61) := (zI_ne e84 (by decide)).trans (f78)
            have f92 : ez_I h83 71 62 = (ez_I h2 71 61) := (zI_ne e84 (by decide)).trans (f79)
            have f93 : ez_I h83 71 63 = x69 := (zI_ne e84 (by decide)).trans (f80)
            refine gw_ld rfl rfl ?_
            refine z_gI2 (by decide) (zT S85 (by decide) rfl) (f87) ?_
            refine z_b1 (fun c94 => ?_) (fun c94 => ?_)
            · have c94 : x82.toInt ≤ 0 := c94
              exfalso; omega
            · have c94 : ¬ (x82.toInt ≤ 0) := c94
              refine z_C (m := 0) rfl rfl (fun x95 ex95 => ?_)
              refine z_ri ?_
              have t96 := congrArg Int32.toInt (f87)
              have t97 := congrArg Int32.toInt (f88)
              have t98 := congrArg Int32.toInt (f89)
              have t99 := congrArg Int32.toInt (f90)
              have t100 := congrArg Int32.toInt (f91)
              have t101 := congrArg Int32.toInt (f92)
              have t102 := congrArg Int32.toInt (f93)
              have t103 := congrArg Int32.toInt (zG_f F86 (k := 6) (by decide))
              have t104 := congrArg Int32.toInt (zG_f F86 (k := 14) (by decide))
              have t105 := congrArg Int32.toInt (zG_f F86 (k := 15) (by decide))
              exact K _ x95 (zG_Y F86 (fun q hq => by first | omega | exact False.elim hq)) (mI_G M F86 (fun q hq => by first | omega | exact fun c => c) (by omega)) 
      · have c8 : ¬ (la.toInt ≠ 0) := c8
        refine gw_ld rfl rfl ?_
        refine z_gI2 (by decide) (zT S2 (by decide) rfl) (rfl) ?_
        refine z_b1 (fun c106 => ?_) (fun c106 => ?_)
        · have c106 : ((ez_I h2 71 61)).toInt ≠ 0 := c106
          refine gw_skip _ ?_
          refine gw_ld rfl rfl ?_
          refine gw_ld rfl rfl ?_
          refine z_gI2 (by decide) (zT S2 (by decide) rfl) (rfl) ?_
          refine z_pI (zT S2 (by decide) rfl) (fun h107 e108 => ?_)
          have S109 := zSh_set S2 e108
          have F110 := zG_setF F e108 (by decide)
          have f111 : ez_I h107 71 0 = (ez_I h2 71 0) := (zI_ne e108 (by decide)).trans (rfl)
          have f112 : ez_I h107 71 7 = (ez_I h2 71 7) := (zI_ne e108 (by decide)).trans (rfl)
          have f113 : ez_I h107 71 59 = (ez_I h2 71 59) := (zI_ne e108 (by decide)).trans (rfl)
          have f114 : ez_I h107 71 60 = (ez_I h2 71 60) := (zI_ne e108 (by decide)).trans (rfl)
          have f115 : ez_I h107 71 61 = (ez_I h2 71 61) := (zI_ne e108 (by decide)).trans (rfl)
          have f116 : ez_I h107 71 62 = (ez_I h2 71 61) := zI_eq e108
          have f117 : ez_I h107 71 63 = (ez_I h2 71 63) := (zI_ne e108 (by decide)).trans (rfl)
          refine gw_ld rfl rfl ?_
          refine gw_ld rfl rfl ?_
          refine z_gI2 (by decide) (zT S109 (by decide) rfl) (f116) ?_
          refine z_b1 (fun c118 => ?_) (fun c118 => ?_)
          · have c118 : ((ez_I h2 71 61)).toInt ≤ 0 := c118
            refine gw_skip _ ?_
            refine z_C (m := -1) rfl rfl (fun x119 ex119 => ?_)
            refine z_pI (zT S109 (by decide) rfl) (fun h120 e121 => ?_)
            have S122 := zSh_set S109 e121
            have F123 := zG_setF F110 e121 (by decide)
            have f124 : ez_I h120 71 0 = (ez_I h2 71 0) := (zI_ne e121 (by decide)).trans (f111)
            have f125 : ez_I h120 71 7 = (ez_I h2 71 7) := (zI_ne e121 (by decide)).trans (f112)
            have f126 : ez_I h120 71 59 = (ez_I h2 71 59) := (zI_ne e121 (by decide)).trans (f113)
            have f127 : ez_I h120 71 60 = (ez_I h2 71 60) := (zI_ne e121 (by decide)).trans (f114)
            have f128 : ez_I h120 71 61 = (ez_I h2 71 61) := (zI_ne e121 (by decide)).trans (f115)
            have f129 : ez_I h120 71 62 = (ez_I h2 71 61) := (zI_ne e121 (by decide)).trans (f116)
            have f130 : ez_I h120 71 63 = x119 := zI_eq e121
            refine gw_ld rfl rfl ?_
            refine gw_ld rfl rfl ?_
            refine z_gI2 (by decide) (zT S122 (by decide) rfl) (f129) ?_
            refine z_b1 (fun c131 => ?_) (fun c131 => ?_)
            · have c131 : ((ez_I h2 71 61)).toInt ≤ 0 := c131
              refine gw_skip _ ?_
              refine z_C (m := 0) rfl rfl (fun x132 ex132 => ?_)
              refine z_pI (zT S122 (by decide) rfl) (fun h133 e134 => ?_)
              have S135 := zSh_set S122 e134
              have F136 := zG_setF F123 e134 (by decide)
              have f137 : ez_I h133 71 0 = x132 := zI_eq e134
              have f138 : ez_I h133 71 7 = (ez_I h2 71 7) := (zI_ne e134 (by decide)).trans (f125)
              have f139 : ez_I h133 71 59 = (ez_I h2 71 59) := (zI_ne e134 (by decide)).trans (f126)
              have f140 : ez_I h133 71 60 = (ez_I h2 71 60) := (zI_ne e134 (by decide)).trans (f127)
              have f141 : ez_I h133 71 61 = (ez_I h2 71 61) := (zI_ne e134 (by decide)).trans (f128)
              have f142 : ez_I h133 71 62 = (ez_I h2 71 61) := (zI_ne e134 (by decide)).trans (f129)
              have f143 : ez_I h133 71 63 = x119 := (zI_ne e134 (by decide)).trans (f130)
              refine gw_ld rfl rfl ?_
              refine z_gI2 (by decide) (zT S135 (by decide) rfl) (f137) ?_
              refine z_b1 (fun c144 => ?_) (fun c144 => ?_)
              · have c144 : x132.toInt ≤ 0 := c144
                refine gw_skip _ ?_
                refine gw_ld rfl rfl ?_
                refine gw_ld rfl rfl ?_
                refine z_gI2 (by decide) (zT S135 (by decide) rfl) (f140) ?_
                refine z_pI (zT S135 (by decide) rfl) (fun h145 e146 => ?_)
                have S147 := zSh_set S135 e146
                have F148 := zG_setF F136 e146 (by decide)
                have f149 : ez_I h145 71 0 = x132 := (zI_ne e146 (by decide)).trans (f137)
                have f150 : ez_I h145 71 7 = (ez_I h2 71 60) := zI_eq e146
                have f151 : ez_I h145 71 59 = (ez_I h2 71 59) := (zI_ne e146 (by decide)).trans (f139)
                have f152 : ez_I h145 71 60 = (ez_I h2 71 60) := (zI_ne e146 (by decide)).trans (f140)
                have f153 : ez_I h145 71 61 = (ez_I h2 71 61) := (zI_ne e146 (by decide)).trans (f141)
                have f154 : ez_I h145 71 62 = (ez_I h2 71 61) := (zI_ne e146 (by decide)).trans (f142)
                have f155 : ez_I h145 71 63 = x119 := (zI_ne e146 (by decide)).trans (f143)
                refine z_C (m := 0) rfl rfl (fun x156 ex156 => ?_)
                refine gw_st rfl rfl rfl ?_
                show ez_gw _ _ _ _ _ _ _ _ [some (.ref 71), some (.int la), some (.int x156), l3] _ _ _
                have t157 := congrArg Int32.toInt (f149)
                have t158 := congrArg Int32.toInt (f150)
                have t159 := congrArg Int32.toInt (f151)
                have t160 := congrArg Int32.toInt (f152)
                have t161 := congrArg Int32.toInt (f153)
                have t162 := congrArg Int32.toInt (f154)
                have t163 := congrArg Int32.toInt (f155)
                exact ez_Wp_at ((m_unpack_L1  S M K (((2147483647 - x156.toInt)).toNat + 1)) h145 la x156 (l3) F148 (by omega)  (by omega)) rfl
              · have c144 : ¬ (x132.toInt ≤ 0) := c144
                exfalso; omega
            · have c131 : ¬ (((ez_I h2 71 61)).toInt ≤ 0) := c131
              exfalso; omega
          · have c118 : ¬ (((ez_I h2 71 61)).toInt ≤ 0) := c118
            refine gw_ld rfl rfl ?_
            refine z_gI2 (by decide) (zT S109 (by decide) rfl) (f113) ?_
            refine z_C (m := 7) rfl rfl (fun x164 ex164 => ?_)
            refine z_add (by omega) (fun x165 ex165 => ?_)
            refine z_C (m := 8) rfl rfl (fun x166 ex166 => ?_)
            refine z_dvP (c := 8) ex166 (by decide) (by omega) (fun x167 ex167 => ?_)
            refine z_go ?_
            refine gw_skip _ ?_
            refine z_pI (zT S109 (by decide) rfl) (fun h168 e169 => ?_)
            have S170 := zSh_set S109 e169
            have F171 := zG_setF F110 e169 (by decide)
            have f172 : ez_I h168 71 0 = (ez_I h2 71 0) := (zI_ne e169 (by decide)).trans (f111)
            have f173 : ez_I h168 71 7 = (ez_I h2 71 7) := (zI_ne e169 (by decide)).trans (f112)
            have f174 : ez_I h168 71 59 = (ez_I h2 71 59) := (zI_ne e169 (by decide)).trans (f113)
            have f175 : ez_I h168 71 60 = (ez_I h2 71 60) := (zI_ne e169 (by decide)).trans (f114)
            have f176 : ez_I h168 71 61 = (ez_I h2 71 61) := (zI_ne e169 (by decide)).trans (f115)
            have f177 : ez_I h168 71 62 = (ez_I h2 71 61) := (zI_ne e169 (by decide)).trans (f116)
            have f178 : ez_I h168 71 63 = x167 := zI_eq e169
            refine gw_ld rfl rfl ?_
            refine gw_ld rfl rfl ?_
            refine z_gI2 (by decide) (zT S170 (by decide) rfl) (f177) ?_
            refine z_b1 (fun c179 => ?_) (fun c179 => ?_)
            · have c179 : ((ez_I h2 71 61)).toInt ≤ 0 := c179
              exfalso; omega
            · have c179 : ¬ (((ez_I h2 71 61)).toInt ≤ 0) := c179
              refine z_C (m := 1) rfl rfl (fun x180 ex180 => ?_)
              refine z_go ?_
              refine gw_skip _ ?_
              refine z_pI (zT S170 (by decide) rfl) (fun h181 e182 => ?_)
              have S183 := zSh_set S170 e182
              have F184 := zG_setF F171 e182 (by decide)
              have f185 : ez_I h181 71 0 = x180 := zI_eq e182
              have f186 : ez_I h181 71 7 = (ez_I h2 71 7) := (zI_ne e182 (by decide)).trans (f173)
              have f187 : ez_I h181 71 59 = (ez_I h2 71 59) := (zI_ne e182 (by decide)).trans (f174)
              have f188 : ez_I h181 71 60 = (ez_I h2 71 60) := (zI_ne e182 (by decide)).trans (f175)
              have f189 : ez_I h181 71 61 = (ez_I h2 71 61) := (zI_ne e182 (by decide)).trans (f176)
              have f190 : ez_I h181 71 62 = (ez_I h2 71 61) := (zI_ne e182 (by decide)).trans (f177)
              have f191 : ez_I h181 71 63 = x167 := (zI_ne e182 (by decide)).trans (f178)
              refine gw_ld rfl rfl ?_
              refine z_gI2 (by decide) (zT S183 (by decide) rfl) (f185) ?_
              refine z_b1 (fun c192 => ?_) (fun c192 => ?_)
              · have c192 : x180.toInt ≤ 0 := c192
                exfalso; omega
              · have c192 : ¬ (x180.toInt ≤ 0) := c192
                refine z_C (m := 0) rfl rfl (fun x193 ex193 => ?_)
                refine z_ri ?_
                have t194 := congrArg Int32.toInt (f185)
                have t195 := congrArg Int32.toInt (f186)
                have t196 := congrArg Int32.toInt (f187)
                have t197 := congrArg Int32.toInt (f188)
                have t198 := congrArg Int32.toInt (f189)
                have t199 := congrArg Int32.toInt (f190)
                have t200 := congrArg Int32.toInt (f191)
                have t201 := congrArg Int32.toInt (zG_f F184 (k := 6) (by decide))
                have t202 := congrArg Int32.toInt (zG_f F184 (k := 14) (by decide))
                have t203 := congrArg Int32.toInt (zG_f F184 (k := 15) (by decide))
                exact K _ x193 (zG_Y F184 (fun q hq => by first | omega | exact False.elim hq)) (mI_G M F184 (fun q hq => by first | omega | exact fun c => c) (by omega)) 
        · have c106 : ¬ (((ez_I h2 71 61)).toInt ≠ 0) := c106
          refine gw_ld rfl rfl ?_
          refine z_C (m := 1) rfl rfl (fun x204 ex204 => ?_)
          refine z_cl rfl rfl rfl rfl rfl rfl rfl rfl rfl rfl rfl (zT S2 (by decide) rfl) ?_
          refine m_tb S2 (n := x204) (by rw [zG_f F (k := 6) (by decide)]; exact M6) (by rw [show ez_I h2 71 6 = ez_I h 71 6 from zG_f F (by decide)]; omega) (by omega) (by omega) (fun h205 x210 F206 k207 k208 k209 => ?_)
          have rx210 := z_rng x210
          rw [show ez_I h2 71 6 = ez_I h 71 6 from zG_f F (by decide)] at k208
          have S211 := zG_sh F206 S2
          have F212 := zG_tr F (zG_mono F206 (fun k hk => by first | omega | exact False.elim hk) (fun k hk => by first | omega | exact False.elim hk))
          have f213 : ez_I h205 71 0 = (ez_I h2 71 0) := (zG_f F206 (by decide)).trans (rfl)
          have f214 : ez_I h205 71 7 = (ez_I h2 71 7) := (zG_f F206 (by decide)).trans (rfl)
          have r215 := z_rng (ez_I h205 71 59)
          have f216 : ez_I h205 71 60 = (ez_I h2 71 60) := (zG_f F206 (by decide)).trans (rfl)
          have r217 := z_rng (ez_I h205 71 61)
          have f218 : ez_I h205 71 62 = (ez_I h2 71 62) := (zG_f F206 (by decide)).trans (rfl)
          have f219 : ez_I h205 71 63 = (ez_I h2 71 63) := (zG_f F206 (by decide)).trans (rfl)
          replace k207 := And.intro k207.1 (z_pow (m := 1) k207.2 (by omega))
          have : (2 : Int) ^ 1 = 2 := rfl
          refine z_C (m := 1) rfl rfl (fun x220 ex220 => ?_)
          refine z_b2 (fun c221 => ?_) (fun c221 => ?_)
          · have c221 : x210.toInt ≠ x220.toInt := c221
            refine gw_skip _ ?_
            refine z_C (m := 0) rfl rfl (fun x222 ex222 => ?_)
            refine gw_st rfl rfl rfl ?_
            show ez_gw _ _ _ _ _ _ _ _ [some (.ref 71), some (.int x222), l2, l3] _ _ _
            refine gw_ld rfl rfl ?_
            refine z_C (m := 2) rfl rfl (fun x223 ex223 => ?_)
            have t224 := congrArg Int32.toInt (f213)
            have t225 := congrArg Int32.toInt (f214)
            have t226 := congrArg Int32.toInt (f216)
            have t227 := congrArg Int32.toInt (f218)
            have t228 := congrArg Int32.toInt (f219)
            refine z_cl rfl rfl rfl rfl rfl rfl rfl rfl rfl rfl rfl (zT S211 (by decide) rfl) ?_
            refine m_tb S211 (n := x223) (by rw [zG_f F212 (k := 6) (by decide)]; exact M6) (by rw [show ez_I h205 71 6 = ez_I h 71 6 from zG_f F212 (by decide)]; omega) (by omega) (by omega) (fun h229 x234 F230 k231 k232 k233 => ?_)
            have rx234 := z_rng x234
            rw [show ez_I h205 71 6 = ez_I h 71 6 from zG_f F212 (by decide)] at k232
            have S235 := zG_sh F230 S211
            have F236 := zG_tr F212 (zG_mono F230 (fun k hk => by first | omega | exact False.elim hk) (fun k hk => by first | omega | exact False.elim hk))
            have f237 : ez_I h229 71 0 = (ez_I h2 71 0) := (zG_f F230 (by decide)).trans (f213)
            have f238 : ez_I h229 71 7 = (ez_I h2 71 7) := (zG_f F230 (by decide)).trans (f214)
            have r239 := z_rng (ez_I h229 71 59)
            have f240 : ez_I h229 71 60 = (ez_I h2 71 60) := (zG_f F230 (by decide)).trans (f216)
            have r241 := z_rng (ez_I h229 71 61)
            have f242 : ez_I h229 71 62 = (ez_I h2 71 62) := (zG_f F230 (by decide)).trans (f218)
            have f243 : ez_I h229 71 63 = (ez_I h2 71 63) := (zG_f F230 (by decide)).trans (f219)
            replace k231 := And.intro k231.1 (z_pow (m := 2) k231.2 (by omega))
            have : (2 : Int) ^ 2 = 4 := rfl
            refine gw_st rfl rfl rfl ?_
            show ez_gw _ _ _ _ _ _ _ _ [some (.ref 71), some (.int x222), some (.int x234), l3] _ _ _
            refine gw_ld rfl rfl ?_
            refine z_gI2 (by decide) (zT S235 (by decide) rfl) (rfl) ?_
            refine z_b1 (fun c244 => ?_) (fun c244 => ?_)
            · have c244 : ((ez_I h229 71 61)).toInt ≤ 0 := c244
              refine gw_skip _ ?_
              refine gw_ld rfl rfl ?_
              refine z_C (m := 3) rfl rfl (fun x245 ex245 => ?_)
              refine z_b2 (fun c246 => ?_) (fun c246 => ?_)
              · have c246 : x234.toInt ≠ x245.toInt := c246
                refine gw_skip _ ?_
                refine gw_ld rfl rfl ?_
                refine z_b1 (fun c247 => ?_) (fun c247 => ?_)
                · have c247 : x234.toInt ≠ 0 := c247
                  refine gw_skip _ ?_
                  refine gw_ld rfl rfl ?_
                  refine z_C (m := 1) rfl rfl (fun x248 ex248 => ?_)
                  refine z_b2 (fun c249 => ?_) (fun c249 => ?_)
                  · have c249 : x234.toInt ≠ x248.toInt := c249
                    refine gw_skip _ ?_
                    refine gw_ld rfl rfl ?_
                    refine z_C (m := 2) rfl rfl (fun x250 ex250 => ?_)
                    refine z_b2 (fun c251 => ?_) (fun c251 => ?_)
                    · have c251 : x234.toInt ≠ x250.toInt := c251
                      refine gw_skip _ ?_
                      refine gw_ld rfl rfl ?_
                      refine z_C (m := 1) rfl rfl (fun x252 ex252 => ?_)
                      refine z_b2 (fun c253 => ?_) (fun c253 => ?_)
                      · have c253 : x234.toInt = x252.toInt := c253
                        exfalso; omega
                      · have c253 : ¬ (x234.toInt = x252.toInt) := c253
                        refine gw_ld rfl rfl ?_
                        refine z_C (m := 2) rfl rfl (fun x254 ex254 => ?_)
                        refine z_b2 (fun c255 => ?_) (fun c255 => ?_)
                        · have c255 : x234.toInt ≠ x254.toInt := c255
                          refine gw_skip _ ?_
                          refine z_go ?_
                          have t256 := congrArg Int32.toInt (f237)
                          have t257 := congrArg Int32.toInt (f238)
                          have t258 := congrArg Int32.toInt (f240)
                          have t259 := congrArg Int32.toInt (f242)
                          have t260 := congrArg Int32.toInt (f243)
                          exact ih.1 h229 x222 (some (.int x234)) (l3) 1 F236 (by omega)  (by omega)
                        · have c255 : ¬ (x234.toInt ≠ x254.toInt) := c255
                          exfalso; omega
                    · have c251 : ¬ (x234.toInt ≠ x250.toInt) := c251
                      refine gw_ld rfl rfl ?_
                      have t261 := congrArg Int32.toInt (f237)
                      have t262 := congrArg Int32.toInt (f238)
                      have t263 := congrArg Int32.toInt (f240)
                      have t264 := congrArg Int32.toInt (f242)
                      have t265 := congrArg Int32.toInt (f243)
                      refine z_cl rfl rfl rfl rfl rfl rfl rfl rfl rfl rfl rfl (zT S235 (by decide) rfl) ?_
                      refine m_rl S235 (by rw [zG_f F236 (k := 6) (by decide)]; exact M6) (by rw [show ez_I h229 71 6 = ez_I h 71 6 from zG_f F236 (by decide)]; omega) (by omega) (cC_G MC F236 (fun q hq => by omega)) (fun h266  F267 k268 k269 => ?_)
                      rw [show ez_I h229 71 6 = ez_I h 71 6 from zG_f F236 (by decide)] at k268
                      have S270 := zG_sh F267 S235
                      have F271 := zG_tr F236 (zG_mono F267 (fun k hk => by first | omega | exact False.elim hk) (fun k hk => by first | omega | exact False.elim hk))
                      have f272 : ez_I h266 71 0 = (ez_I h2 71 0) := (zG_f F267 (by decide)).trans (f237)
                      have f273 : ez_I h266 71 7 = (ez_I h2 71 7) := (zG_f F267 (by decide)).trans (f238)
                      have r274 := z_rng (ez_I h266 71 59)
                      have f275 : ez_I h266 71 60 = (ez_I h2 71 60) := (zG_f F267 (by decide)).trans (f240)
                      have r276 := z_rng (ez_I h266 71 61)
                      have f277 : ez_I h266 71 62 = (ez_I h2 71 62) := (zG_f F267 (by decide)).trans (f242)
                      have f278 : ez_I h266 71 63 = (ez_I h2 71 63) := (zG_f F267 (by decide)).trans (f243)
                      refine gw_ld rfl rfl ?_
                      refine z_C (m := 1) rfl rfl (fun x279 ex279 => ?_)
                      refine z_b2 (fun c280 => ?_) (fun c280 => ?_)
                      · have c280 : x234.toInt = x279.toInt := c280
                        exfalso; omega
                      · have c280 : ¬ (x234.toInt = x279.toInt) := c280
                        refine gw_ld rfl rfl ?_
                        refine z_C (m := 2) rfl rfl (fun x281 ex281 => ?_)
                        refine z_b2 (fun c282 => ?_) (fun c282 => ?_)
                        · have c282 : x234.toInt ≠ x281.toInt := c282
                          exfalso; omega
                        · have c282 : ¬ (x234.toInt ≠ x281.toInt) := c282
                          refine gw_ld rfl rfl ?_
                          refine z_gI2 (by decide) (zT S270 (by decide) rfl) (rfl) ?_
                          refine z_b1 (fun c283 => ?_) (fun c283 => ?_)
                          · have c283 : ((ez_I h266 71 61)).toInt ≠ 0 := c283
                            refine gw_skip _ ?_
                            refine z_go ?_
                            have t284 := congrArg Int32.toInt (f272)
                            have t285 := congrArg Int32.toInt (f273)
                            have t286 := congrArg Int32.toInt (f275)
                            have t287 := congrArg Int32.toInt (f277)
                            have t288 := congrArg Int32.toInt (f278)
                            exact ih.1 h266 x222 (some (.int x234)) (l3) 1 F271 (by omega)  (by omega)
                          · have c283 : ¬ (((ez_I h266 71 61)).toInt ≠ 0) := c283
                            refine gw_ld rfl rfl ?_
                            have t289 := congrArg Int32.toInt (f272)
                            have t290 := congrArg Int32.toInt (f273)
                            have t291 := congrArg Int32.toInt (f275)
                            have t292 := congrArg Int32.toInt (f277)
                            have t293 := congrArg Int32.toInt (f278)
                            refine z_cl rfl rfl rfl rfl rfl rfl rfl rfl rfl rfl rfl (zT S270 (by decide) rfl) ?_
                            refine m_uc S270 (by rw [zG_f F271 (k := 6) (by decide)]; exact M6) (by rw [show ez_I h266 71 6 = ez_I h 71 6 from zG_f F271 (by decide)]; omega) (by omega) (by omega) (cC_G MC F271 (fun q hq => by omega)) ((k269 (by omega)).1) ((k269 (by omega)).2) (fun h294  F295 k296 => ?_)
                            rw [show ez_I h266 71 6 = ez_I h 71 6 from zG_f F271 (by decide)] at k296
                            have S297 := zG_sh F295 S270
                            have F298 := zG_tr F271 (zG_mono F295 (fun k hk => by first | omega | exact False.elim hk) (fun k hk => by first | omega | exact False.elim hk))
                            have f299 : ez_I h294 71 0 = (ez_I h2 71 0) := (zG_f F295 (by decide)).trans (f272)
                            have f300 : ez_I h294 71 7 = (ez_I h2 71 7) := (zG_f F295 (by decide)).trans (f273)
                            have r301 := z_rng (ez_I h294 71 59)
                            have r302 := z_rng (ez_I h294 71 60)
                            have r303 := z_rng (ez_I h294 71 61)
                            have f304 : ez_I h294 71 62 = (ez_I h2 71 62) := (zG_f F295 (by decide)).trans (f277)
                            have f305 : ez_I h294 71 63 = (ez_I h2 71 63) := (zG_f F295 (by decide)).trans (f278)
                            have A306 : ((ez_I h266 71 61).toInt = 0 → aR (ez_I h294 120) 288 0 15 ∧ aR (ez_I h294 121) 32 0 15) := by rw [zG_fn F295 120 (by decide) (by first | omega | exact fun c => c), zG_fn F295 121 (by decide) (by first | omega | exact fun c => c)]; exact k269
                            refine z_go ?_
                            have t307 := congrArg Int32.toInt (f299)
                            have t308 := congrArg Int32.toInt (f300)
                            have t309 := congrArg Int32.toInt (f304)
                            have t310 := congrArg Int32.toInt (f305)
                            exact ih.1 h294 x222 (some (.int x234)) (l3) 1 F298 (by omega)  (by omega)
                  · have c249 : ¬ (x234.toInt ≠ x248.toInt) := c249
                    refine z_C (m := 0) rfl rfl (fun x311 ex311 => ?_)
                    refine gw_st rfl rfl rfl ?_
                    show ez_gw _ _ _ _ _ _ _ _ [some (.ref 71), some (.int x222), some (.int x234), some (.int x311)] _ _ _
                    have t312 := congrArg Int32.toInt (f237)
                    have t313 := congrArg Int32.toInt (f238)
                    have t314 := congrArg Int32.toInt (f240)
                    have t315 := congrArg Int32.toInt (f242)
                    have t316 := congrArg Int32.toInt (f243)
                    exact ez_Wp_at (ih.2.1 h229 x222 x234 x311 F236 (by omega) ((by rw [show x311.toInt.toNat = 0 by omega]; exact aR_0 _ _ _)) (by omega)) rfl
                · have c247 : ¬ (x234.toInt ≠ 0) := c247
                  refine gw_ld rfl rfl ?_
                  have t317 := congrArg Int32.toInt (f237)
                  have t318 := congrArg Int32.toInt (f238)
                  have t319 := congrArg Int32.toInt (f240)
                  have t320 := congrArg Int32.toInt (f242)
                  have t321 := congrArg Int32.toInt (f243)
                  refine z_cl rfl rfl rfl rfl rfl rfl rfl rfl rfl rfl rfl (zT S235 (by decide) rfl) ?_
                  refine m_uStored S235 (by rw [zG_f F236 (k := 6) (by decide)]; exact M6) (by rw [show ez_I h229 71 6 = ez_I h 71 6 from zG_f F236 (by decide)]; omega) (by omega) (by omega) (fun h322  F323 k324 => ?_)
                  rw [show ez_I h229 71 6 = ez_I h 71 6 from zG_f F236 (by decide)] at k324
                  have S325 := zG_sh F323 S235
                  have F326 := zG_tr F236 (zG_mono F323 (fun k hk => by first | omega | exact False.elim hk) (fun k hk => by first | omega | exact False.elim hk))
                  have f327 : ez_I h322 71 0 = (ez_I h2 71 0) := (zG_f F323 (by decide)).trans (f237)
                  have f328 : ez_I h322 71 7 = (ez_I h2 71 7) := (zG_f F323 (by decide)).trans (f238)
                  have r329 := z_rng (ez_I h322 71 59)
                  have r330 := z_rng (ez_I h322 71 60)
                  have r331 := z_rng (ez_I h322 71 61)
                  have f332 : ez_I h322 71 62 = (ez_I h2 71 62) := (zG_f F323 (by decide)).trans (f242)
                  have f333 : ez_I h322 71 63 = (ez_I h2 71 63) := (zG_f F323 (by decide)).trans (f243)
                  refine gw_ld rfl rfl ?_
                  refine z_C (m := 1) rfl rfl (fun x334 ex334 => ?_)
                  refine z_b2 (fun c335 => ?_) (fun c335 => ?_)
                  · have c335 : x234.toInt ≠ x334.toInt := c335
                    refine gw_skip _ ?_
                    refine gw_ld rfl rfl ?_
                    refine z_C (m := 2) rfl rfl (fun x336 ex336 => ?_)
                    refine z_b2 (fun c337 => ?_) (fun c337 => ?_)
                    · have c337 : x234.toInt ≠ x336.toInt := c337
                      refine gw_skip _ ?_
                      refine gw_ld rfl rfl ?_
                      refine z_C (m := 1) rfl rfl (fun x338 ex338 => ?_)
                      refine z_b2 (fun c339 => ?_) (fun c339 => ?_)
                      · have c339 : x234.toInt = x338.toInt := c339
                        exfalso; omega
                      · have c339 : ¬ (x234.toInt = x338.toInt) := c339
                        refine gw_ld rfl rfl ?_
                        refine z_C (m := 2) rfl rfl (fun x340 ex340 => ?_)
                        refine z_b2 (fun c341 => ?_) (fun c341 => ?_)
                        · have c341 : x234.toInt ≠ x340.toInt := c341
                          refine gw_skip _ ?_
                          refine z_go ?_
                          have t342 := congrArg Int32.toInt (f327)
                          have t343 := congrArg Int32.toInt (f328)
                          have t344 := congrArg Int32.toInt (f332)
                          have t345 := congrArg Int32.toInt (f333)
                          exact ih.1 h322 x222 (some (.int x234)) (l3) 1 F326 (by omega)  (by omega)
                        · have c341 : ¬ (x234.toInt ≠ x340.toInt) := c341
                          exfalso; omega
                    · have c337 : ¬ (x234.toInt ≠ x336.toInt) := c337
                      exfalso; omega
                  · have c335 : ¬ (x234.toInt ≠ x334.toInt) := c335
                    exfalso; omega
              · have c246 : ¬ (x234.toInt ≠ x245.toInt) := c246
                refine gw_ld rfl rfl ?_
                refine z_C (m := 2) rfl rfl (fun x346 ex346 => ?_)
                have t347 := congrArg Int32.toInt (f237)
                have t348 := congrArg Int32.toInt (f238)
                have t349 := congrArg Int32.toInt (f240)
                have t350 := congrArg Int32.toInt (f242)
                have t351 := congrArg Int32.toInt (f243)
                refine z_cl rfl rfl rfl rfl rfl rfl rfl rfl rfl rfl rfl (zT S235 (by decide) rfl) ?_
                refine m_wrong S235 (n := x346) (by omega) (by omega) (fun h352  F353 k354 => ?_)
                have S355 := zG_sh F353 S235
                have F356 := zG_tr F236 (zG_mono F353 (fun k hk => by first | omega | exact False.elim hk) (fun k hk => by first | omega | exact False.elim hk))
                have f357 : ez_I h352 71 0 = (ez_I h2 71 0) := (zG_f F353 (by decide)).trans (f237)
                have f358 : ez_I h352 71 7 = (ez_I h2 71 7) := (zG_f F353 (by decide)).trans (f238)
                have f359 : ez_I h352 71 59 = (ez_I h229 71 59) := (zG_f F353 (by decide)).trans (rfl)
                have f360 : ez_I h352 71 60 = (ez_I h2 71 60) := (zG_f F353 (by decide)).trans (f240)
                have r361 := z_rng (ez_I h352 71 61)
                have f362 : ez_I h352 71 62 = (ez_I h2 71 62) := (zG_f F353 (by decide)).trans (f242)
                have f363 : ez_I h352 71 63 = (ez_I h2 71 63) := (zG_f F353 (by decide)).trans (f243)
                refine gw_ld rfl rfl ?_
                refine z_b1 (fun c364 => ?_) (fun c364 => ?_)
                · have c364 : x234.toInt ≠ 0 := c364
                  refine gw_skip _ ?_
                  refine gw_ld rfl rfl ?_
                  refine z_C (m := 1) rfl rfl (fun x365 ex365 => ?_)
                  refine z_b2 (fun c366 => ?_) (fun c366 => ?_)
                  · have c366 : x234.toInt ≠ x365.toInt := c366
                    refine gw_skip _ ?_
                    refine gw_ld rfl rfl ?_
                    refine z_C (m := 2) rfl rfl (fun x367 ex367 => ?_)
                    refine z_b2 (fun c368 => ?_) (fun c368 => ?_)
                    · have c368 : x234.toInt ≠ x367.toInt := c368
                      refine gw_skip _ ?_
                      refine gw_ld rfl rfl ?_
                      refine z_C (m := 1) rfl rfl (fun x369 ex369 => ?_)
                      refine z_b2 (fun c370 => ?_) (fun c370 => ?_)
                      · have c370 : x234.toInt = x369.toInt := c370
                        exfalso; omega
                      · have c370 : ¬ (x234.toInt = x369.toInt) := c370
                        refine gw_ld rfl rfl ?_
                        refine z_C (m := 2) rfl rfl (fun x371 ex371 => ?_)
                        refine z_b2 (fun c372 => ?_) (fun c372 => ?_)
                        · have c372 : x234.toInt ≠ x371.toInt := c372
                          refine gw_skip _ ?_
                          refine z_go ?_
                          have t373 := congrArg Int32.toInt (f357)
                          have t374 := congrArg Int32.toInt (f358)
                          have t375 := congrArg Int32.toInt (f359)
                          have t376 := congrArg Int32.toInt (f360)
                          have t377 := congrArg Int32.toInt (f362)
                          have t378 := congrArg Int32.toInt (f363)
                          exact ih.1 h352 x222 (some (.int x234)) (l3) 1 F356 (by omega)  (by omega)
                        · have c372 : ¬ (x234.toInt ≠ x371.toInt) := c372
                          exfalso; omega
                    · have c368 : ¬ (x234.toInt ≠ x367.toInt) := c368
                      exfalso; omega
                  · have c366 : ¬ (x234.toInt ≠ x365.toInt) := c366
                    exfalso; omega
                · have c364 : ¬ (x234.toInt ≠ 0) := c364
                  exfalso; omega
            · have c244 : ¬ (((ez_I h229 71 61)).toInt ≤ 0) := c244
              refine z_go ?_
              have t379 := congrArg Int32.toInt (f237)
              have t380 := congrArg Int32.toInt (f238)
              have t381 := congrArg Int32.toInt (f240)
              have t382 := congrArg Int32.toInt (f242)
              have t383 := congrArg Int32.toInt (f243)
              exact ih.1 h229 x222 (some (.int x234)) (l3) 0 F236 (by omega)  (by omega)
          · have c221 : ¬ (x210.toInt ≠ x220.toInt) := c221
            refine z_C (m := 1) rfl rfl (fun x384 ex384 => ?_)
            refine z_go ?_
            refine gw_skip _ ?_
            refine gw_st rfl rfl rfl ?_
            show ez_gw _ _ _ _ _ _ _ _ [some (.ref 71), some (.int x384), l2, l3] _ _ _
            refine gw_ld rfl rfl ?_
            refine z_C (m := 2) rfl rfl (fun x385 ex385 => ?_)
            have t386 := congrArg Int32.toInt (f213)
            have t387 := congrArg Int32.toInt (f214)
            have t388 := congrArg Int32.toInt (f216)
            have t389 := congrArg Int32.toInt (f218)
            have t390 := congrArg Int32.toInt (f219)
            refine z_cl rfl rfl rfl rfl rfl rfl rfl rfl rfl rfl rfl (zT S211 (by decide) rfl) ?_
            refine m_tb S211 (n := x385) (by rw [zG_f F212 (k := 6) (by decide)]; exact M6) (by rw [show ez_I h205 71 6 = ez_I h 71 6 from zG_f F212 (by decide)]; omega) (by omega) (by omega) (fun h391 x396 F392 k393 k394 k395 => ?_)
            have rx396 := z_rng x396
            rw [show ez_I h205 71 6 = ez_I h 71 6 from zG_f F212 (by decide)] at k394
            have S397 := zG_sh F392 S211
            have F398 := zG_tr F212 (zG_mono F392 (fun k hk => by first | omega | exact False.elim hk) (fun k hk => by first | omega | exact False.elim hk))
            have f399 : ez_I h391 71 0 = (ez_I h2 71 0) := (zG_f F392 (by decide)).trans (f213)
            have f400 : ez_I h391 71 7 = (ez_I h2 71 7) := (zG_f F392 (by decide)).trans (f214)
            have r401 := z_rng (ez_I h391 71 59)
            have f402 : ez_I h391 71 60 = (ez_I h2 71 60) := (zG_f F392 (by decide)).trans (f216)
            have r403 := z_rng (ez_I h391 71 61)
            have f404 : ez_I h391 71 62 = (ez_I h2 71 62) := (zG_f F392 (by decide)).trans (f218)
            have f405 : ez_I h391 71 63 = (ez_I h2 71 63) := (zG_f F392 (by decide)).trans (f219)
            replace k393 := And.intro k393.1 (z_pow (m := 2) k393.2 (by omega))
            have : (2 : Int) ^ 2 = 4 := rfl
            refine gw_st rfl rfl rfl ?_
            show ez_gw _ _ _ _ _ _ _ _ [some (.ref 71), some (.int x384), some (.int x396), l3] _ _ _
            refine gw_ld rfl rfl ?_
            refine z_gI2 (by decide) (zT S397 (by decide) rfl) (rfl) ?_
            refine z_b1 (fun c406 => ?_) (fun c406 => ?_)
            · have c406 : ((ez_I h391 71 61)).toInt ≤ 0 := c406
              refine gw_skip _ ?_
              refine gw_ld rfl rfl ?_
              refine z_C (m := 3) rfl rfl (fun x407 ex407 => ?_)
              refine z_b2 (fun c408 => ?_) (fun c408 => ?_)
              · have c408 : x396.toInt ≠ x407.toInt := c408
                refine gw_skip _ ?_
                refine gw_ld rfl rfl ?_
                refine z_b1 (fun c409 => ?_) (fun c409 => ?_)
                · have c409 : x396.toInt ≠ 0 := c409
                  refine gw_skip _ ?_
                  refine gw_ld rfl rfl ?_
                  refine z_C (m := 1) rfl rfl (fun x410 ex410 => ?_)
                  refine z_b2 (fun c411 => ?_) (fun c411 => ?_)
                  · have c411 : x396.toInt ≠ x410.toInt := c411
                    refine gw_skip _ ?_
                    refine gw_ld rfl rfl ?_
                    refine z_C (m := 2) rfl rfl (fun x412 ex412 => ?_)
                    refine z_b2 (fun c413 => ?_) (fun c413 => ?_)
                    · have c413 : x396.toInt ≠ x412.toInt := c413
                      refine gw_skip _ ?_
                      refine gw_ld rfl rfl ?_
                      refine z_C (m := 1) rfl rfl (fun x414 ex414 => ?_)
                      refine z_b2 (fun c415 => ?_) (fun c415 => ?_)
                      · have c415 : x396.toInt = x414.toInt := c415
                        exfalso; omega
                      · have c415 : ¬ (x396.toInt = x414.toInt) := c415
                        refine gw_ld rfl rfl ?_
                        refine z_C (m := 2) rfl rfl (fun x416 ex416 => ?_)
                        refine z_b2 (fun c417 => ?_) (fun c417 => ?_)
                        · have c417 : x396.toInt ≠ x416.toInt := c417
                          refine gw_skip _ ?_
                          refine z_go ?_
                          have t418 := congrArg Int32.toInt (f399)
                          have t419 := congrArg Int32.toInt (f400)
                          have t420 := congrArg Int32.toInt (f402)
                          have t421 := congrArg Int32.toInt (f404)
                          have t422 := congrArg Int32.toInt (f405)
                          exact ih.1 h391 x384 (some (.int x396)) (l3) 1 F398 (by omega)  (by omega)
                        · have c417 : ¬ (x396.toInt ≠ x416.toInt) := c417
                          exfalso; omega
                    · have c413 : ¬ (x396.toInt ≠ x412.toInt) := c413
                      refine gw_ld rfl rfl ?_
                      have t423 := congrArg Int32.toInt (f399)
                      have t424 := congrArg Int32.toInt (f400)
                      have t425 := congrArg Int32.toInt (f402)
                      have t426 := congrArg Int32.toInt (f404)
                      have t427 := congrArg Int32.toInt (f405)
                      refine z_cl rfl rfl rfl rfl rfl rfl rfl rfl rfl rfl rfl (zT S397 (by decide) rfl) ?_
                      refine m_rl S397 (by rw [zG_f F398 (k := 6) (by decide)]; exact M6) (by rw [show ez_I h391 71 6 = ez_I h 71 6 from zG_f F398 (by decide)]; omega) (by omega) (cC_G MC F398 (fun q hq => by omega)) (fun h428  F429 k430 k431 => ?_)
                      rw [show ez_I h391 71 6 = ez_I h 71 6 from zG_f F398 (by decide)] at k430
                      have S432 := zG_sh F429 S397
                      have F433 := zG_tr F398 (zG_mono F429 (fun k hk => by first | omega | exact False.elim hk) (fun k hk => by first | omega | exact False.elim hk))
                      have f434 : ez_I h428 71 0 = (ez_I h2 71 0) := (zG_f F429 (by decide)).trans (f399)
                      have f435 : ez_I h428 71 7 = (ez_I h2 71 7) := (zG_f F429 (by decide)).trans (f400)
                      have r436 := z_rng (ez_I h428 71 59)
                      have f437 : ez_I h428 71 60 = (ez_I h2 71 60) := (zG_f F429 (by decide)).trans (f402)
                      have r438 := z_rng (ez_I h428 71 61)
                      have f439 : ez_I h428 71 62 = (ez_I h2 71 62) := (zG_f F429 (by decide)).trans (f404)
                      have f440 : ez_I h428 71 63 = (ez_I h2 71 63) := (zG_f F429 (by decide)).trans (f405)
                      refine gw_ld rfl rfl ?_
                      refine z_C (m := 1) rfl rfl (fun x441 ex441 => ?_)
                      refine z_b2 (fun c442 => ?_) (fun c442 => ?_)
                      · have c442 : x396.toInt = x441.toInt := c442
                        exfalso; omega
                      · have c442 : ¬ (x396.toInt = x441.toInt) := c442
                        refine gw_ld rfl rfl ?_
                        refine z_C (m := 2) rfl rfl (fun x443 ex443 => ?_)
                        refine z_b2 (fun c444 => ?_) (fun c444 => ?_)
                        · have c444 : x396.toInt ≠ x443.toInt := c444
                          exfalso; omega
                        · have c444 : ¬ (x396.toInt ≠ x443.toInt) := c444
                          refine gw_ld rfl rfl ?_
                          refine z_gI2 (by decide) (zT S432 (by decide) rfl) (rfl) ?_
                          refine z_b1 (fun c445 => ?_) (fun c445 => ?_)
                          · have c445 : ((ez_I h428 71 61)).toInt ≠ 0 := c445
                            refine gw_skip _ ?_
                            refine z_go ?_
                            have t446 := congrArg Int32.toInt (f434)
                            have t447 := congrArg Int32.toInt (f435)
                            have t448 := congrArg Int32.toInt (f437)
                            have t449 := congrArg Int32.toInt (f439)
                            have t450 := congrArg Int32.toInt (f440)
                            exact ih.1 h428 x384 (some (.int x396)) (l3) 1 F433 (by omega)  (by omega)
                          · have c445 : ¬ (((ez_I h428 71 61)).toInt ≠ 0) := c445
                            refine gw_ld rfl rfl ?_
                            have t451 := congrArg Int32.toInt (f434)
                            have t452 := congrArg Int32.toInt (f435)
                            have t453 := congrArg Int32.toInt (f437)
                            have t454 := congrArg Int32.toInt (f439)
                            have t455 := congrArg Int32.toInt (f440)
                            refine z_cl rfl rfl rfl rfl rfl rfl rfl rfl rfl rfl rfl (zT S432 (by decide) rfl) ?_
                            refine m_uc S432 (by rw [zG_f F433 (k := 6) (by decide)]; exact M6) (by rw [show ez_I h428 71 6 = ez_I h 71 6 from zG_f F433 (by decide)]; omega) (by omega) (by omega) (cC_G MC F433 (fun q hq => by omega)) ((k431 (by omega)).1) ((k431 (by omega)).2) (fun h456  F457 k458 => ?_)
                            rw [show ez_I h428 71 6 = ez_I h 71 6 from zG_f F433 (by decide)] at k458
                            have S459 := zG_sh F457 S432
                            have F460 := zG_tr F433 (zG_mono F457 (fun k hk => by first | omega | exact False.elim hk) (fun k hk => by first | omega | exact False.elim hk))
                            have f461 : ez_I h456 71 0 = (ez_I h2 71 0) := (zG_f F457 (by decide)).trans (f434)
                            have f462 : ez_I h456 71 7 = (ez_I h2 71 7) := (zG_f F457 (by decide)).trans (f435)
                            have r463 := z_rng (ez_I h456 71 59)
                            have r464 := z_rng (ez_I h456 71 60)
                            have r465 := z_rng (ez_I h456 71 61)
                            have f466 : ez_I h456 71 62 = (ez_I h2 71 62) := (zG_f F457 (by decide)).trans (f439)
                            have f467 : ez_I h456 71 63 = (ez_I h2 71 63) := (zG_f F457 (by decide)).trans (f440)
                            have A468 : ((ez_I h428 71 61).toInt = 0 → aR (ez_I h456 120) 288 0 15 ∧ aR (ez_I h456 121) 32 0 15) := by rw [zG_fn F457 120 (by decide) (by first | omega | exact fun c => c), zG_fn F457 121 (by decide) (by first | omega | exact fun c => c)]; exact k431
                            refine z_go ?_
                            have t469 := congrArg Int32.toInt (f461)
                            have t470 := congrArg Int32.toInt (f462)
                            have t471 := congrArg Int32.toInt (f466)
                            have t472 := congrArg Int32.toInt (f467)
                            exact ih.1 h456 x384 (some (.int x396)) (l3) 1 F460 (by omega)  (by omega)
                  · have c411 : ¬ (x396.toInt ≠ x410.toInt) := c411
                    refine z_C (m := 0) rfl rfl (fun x473 ex473 => ?_)
                    refine gw_st rfl rfl rfl ?_
                    show ez_gw _ _ _ _ _ _ _ _ [some (.ref 71), some (.int x384), some (.int x396), some (.int x473)] _ _ _
                    have t474 := congrArg Int32.toInt (f399)
                    have t475 := congrArg Int32.toInt (f400)
                    have t476 := congrArg Int32.toInt (f402)
                    have t477 := congrArg Int32.toInt (f404)
                    have t478 := congrArg Int32.toInt (f405)
                    exact ez_Wp_at (ih.2.1 h391 x384 x396 x473 F398 (by omega) ((by rw [show x473.toInt.toNat = 0 by omega]; exact aR_0 _ _ _)) (by omega)) rfl
                · have c409 : ¬ (x396.toInt ≠ 0) := c409
                  refine gw_ld rfl rfl ?_
                  have t479 := congrArg Int32.toInt (f399)
                  have t480 := congrArg Int32.toInt (f400)
                  have t481 := congrArg Int32.toInt (f402)
                  have t482 := congrArg Int32.toInt (f404)
                  have t483 := congrArg Int32.toInt (f405)
                  refine z_cl rfl rfl rfl rfl rfl rfl rfl rfl rfl rfl rfl (zT S397 (by decide) rfl) ?_
                  refine m_uStored S397 (by rw [zG_f F398 (k := 6) (by decide)]; exact M6) (by rw [show ez_I h391 71 6 = ez_I h 71 6 from zG_f F398 (by decide)]; omega) (by omega) (by omega) (fun h484  F485 k486 => ?_)
                  rw [show ez_I h391 71 6 = ez_I h 71 6 from zG_f F398 (by decide)] at k486
                  have S487 := zG_sh F485 S397
                  have F488 := zG_tr F398 (zG_mono F485 (fun k hk => by first | omega | exact False.elim hk) (fun k hk => by first | omega | exact False.elim hk))
                  have f489 : ez_I h484 71 0 = (ez_I h2 71 0) := (zG_f F485 (by decide)).trans (f399)
                  have f490 : ez_I h484 71 7 = (ez_I h2 71 7) := (zG_f F485 (by decide)).trans (f400)
                  have r491 := z_rng (ez_I h484 71 59)
                  have r492 := z_rng (ez_I h484 71 60)
                  have r493 := z_rng (ez_I h484 71 61)
                  have f494 : ez_I h484 71 62 = (ez_I h2 71 62) := (zG_f F485 (by decide)).trans (f404)
                  have f495 : ez_I h484 71 63 = (ez_I h2 71 63) := (zG_f F485 (by decide)).trans (f405)
                  refine gw_ld rfl rfl ?_
                  refine z_C (m := 1) rfl rfl (fun x496 ex496 => ?_)
                  refine z_b2 (fun c497 => ?_) (fun c497 => ?_)
                  · have c497 : x396.toInt ≠ x496.toInt := c497
                    refine gw_skip _ ?_
                    refine gw_ld rfl rfl ?_
                    refine z_C (m := 2) rfl rfl (fun x498 ex498 => ?_)
                    refine z_b2 (fun c499 => ?_) (fun c499 => ?_)
                    · have c499 : x396.toInt ≠ x498.toInt := c499
                      refine gw_skip _ ?_
                      refine gw_ld rfl rfl ?_
                      refine z_C (m := 1) rfl rfl (fun x500 ex500 => ?_)
                      refine z_b2 (fun c501 => ?_) (fun c501 => ?_)
                      · have c501 : x396.toInt = x500.toInt := c501
                        exfalso; omega
                      · have c501 : ¬ (x396.toInt = x500.toInt) := c501
                        refine gw_ld rfl rfl ?_
                        refine z_C (m := 2) rfl rfl (fun x502 ex502 => ?_)
                        refine z_b2 (fun c503 => ?_) (fun c503 => ?_)
                        · have c503 : x396.toInt ≠ x502.toInt := c503
                          refine gw_skip _ ?_
                          refine z_go ?_
                          have t504 := congrArg Int32.toInt (f489)
                          have t505 := congrArg Int32.toInt (f490)
                          have t506 := congrArg Int32.toInt (f494)
                          have t507 := congrArg Int32.toInt (f495)
                          exact ih.1 h484 x384 (some (.int x396)) (l3) 1 F488 (by omega)  (by omega)
                        · have c503 : ¬ (x396.toInt ≠ x502.toInt) := c503
                          exfalso; omega
                    · have c499 : ¬ (x396.toInt ≠ x498.toInt) := c499
                      exfalso; omega
                  · have c497 : ¬ (x396.toInt ≠ x496.toInt) := c497
                    exfalso; omega
              · have c408 : ¬ (x396.toInt ≠ x407.toInt) := c408
                refine gw_ld rfl rfl ?_
                refine z_C (m := 2) rfl rfl (fun x508 ex508 => ?_)
                have t509 := congrArg Int32.toInt (f399)
                have t510 := congrArg Int32.toInt (f400)
                have t511 := congrArg Int32.toInt (f402)
                have t512 := congrArg Int32.toInt (f404)
                have t513 := congrArg Int32.toInt (f405)
                refine z_cl rfl rfl rfl rfl rfl rfl rfl rfl rfl rfl rfl (zT S397 (by decide) rfl) ?_
                refine m_wrong S397 (n := x508) (by omega) (by omega) (fun h514  F515 k516 => ?_)
                have S517 := zG_sh F515 S397
                have F518 := zG_tr F398 (zG_mono F515 (fun k hk => by first | omega | exact False.elim hk) (fun k hk => by first | omega | exact False.elim hk))
                have f519 : ez_I h514 71 0 = (ez_I h2 71 0) := (zG_f F515 (by decide)).trans (f399)
                have f520 : ez_I h514 71 7 = (ez_I h2 71 7) := (zG_f F515 (by decide)).trans (f400)
                have f521 : ez_I h514 71 59 = (ez_I h391 71 59) := (zG_f F515 (by decide)).trans (rfl)
                have f522 : ez_I h514 71 60 = (ez_I h2 71 60) := (zG_f F515 (by decide)).trans (f402)
                have r523 := z_rng (ez_I h514 71 61)
                have f524 : ez_I h514 71 62 = (ez_I h2 71 62) := (zG_f F515 (by decide)).trans (f404)
                have f525 : ez_I h514 71 63 = (ez_I h2 71 63) := (zG_f F515 (by decide)).trans (f405)
                refine gw_ld rfl rfl ?_
                refine z_b1 (fun c526 => ?_) (fun c526 => ?_)
                · have c526 : x396.toInt ≠ 0 := c526
                  refine gw_skip _ ?_
                  refine gw_ld rfl rfl ?_
                  refine z_C (m := 1) rfl rfl (fun x527 ex527 => ?_)
                  refine z_b2 (fun c528 => ?_) (fun c528 => ?_)
                  · have c528 : x396.toInt ≠ x527.toInt := c528
                    refine gw_skip _ ?_
                    refine gw_ld rfl rfl ?_
                    refine z_C (m := 2) rfl rfl (fun x529 ex529 => ?_)
                    refine z_b2 (fun c530 => ?_) (fun c530 => ?_)
                    · have c530 : x396.toInt ≠ x529.toInt := c530
                      refine gw_skip _ ?_
                      refine gw_ld rfl rfl ?_
                      refine z_C (m := 1) rfl rfl (fun x531 ex531 => ?_)
                      refine z_b2 (fun c532 => ?_) (fun c532 => ?_)
                      · have c532 : x396.toInt = x531.toInt := c532
                        exfalso; omega
                      · have c532 : ¬ (x396.toInt = x531.toInt) := c532
                        refine gw_ld rfl rfl ?_
                        refine z_C (m := 2) rfl rfl (fun x533 ex533 => ?_)
                        refine z_b2 (fun c534 => ?_) (fun c534 => ?_)
                        · have c534 : x396.toInt ≠ x533.toInt := c534
                          refine gw_skip _ ?_
                          refine z_go ?_
                          have t535 := congrArg Int32.toInt (f519)
                          have t536 := congrArg Int32.toInt (f520)
                          have t537 := congrArg Int32.toInt (f521)
                          have t538 := congrArg Int32.toInt (f522)
                          have t539 := congrArg Int32.toInt (f524)
                          have t540 := congrArg Int32.toInt (f525)
                          exact ih.1 h514 x384 (some (.int x396)) (l3) 1 F518 (by omega)  (by omega)
                        · have c534 : ¬ (x396.toInt ≠ x533.toInt) := c534
                          exfalso; omega
                    · have c530 : ¬ (x396.toInt ≠ x529.toInt) := c530
                      exfalso; omega
                  · have c528 : ¬ (x396.toInt ≠ x527.toInt) := c528
                    exfalso; omega
                · have c526 : ¬ (x396.toInt ≠ 0) := c526
                  exfalso; omega
            · have c406 : ¬ (((ez_I h391 71 61)).toInt ≤ 0) := c406
              refine z_go ?_
              have t541 := congrArg Int32.toInt (f399)
              have t542 := congrArg Int32.toInt (f400)
              have t543 := congrArg Int32.toInt (f402)
              have t544 := congrArg Int32.toInt (f404)
              have t545 := congrArg Int32.toInt (f405)
              exact ih.1 h391 x384 (some (.int x396)) (l3) 0 F398 (by omega)  (by omega)
    · skip
      have w_la := z_rng la
      have w_kd := z_rng kd
      have w_i := z_rng i
      have M6 := M.1.1
      have M7 := M.1.2.1
      have M14 := M.1.2.2.1
      have M15 := M.1.2.2.2
      have MC := M.2
      have S2 := zG_sh F S
      apply ez_Wp_in
      show ez_gw _ _ _ _ _ _ (cz_60) _ _ _ _ _
      refine gw_skip _ ?_
      have r546 := z_rng (ez_I h2 71 0)
      have r547 := z_rng (ez_I h2 71 7)
      have r548 := z_rng (ez_I h2 71 59)
      have r549 := z_rng (ez_I h2 71 60)
      have r550 := z_rng (ez_I h2 71 61)
      have r551 := z_rng (ez_I h2 71 62)
      have r552 := z_rng (ez_I h2 71 63)
      refine gw_ld rfl rfl ?_
      refine z_C (m := 288) rfl rfl (fun x553 ex553 => ?_)
      refine z_b2 (fun c554 => ?_) (fun c554 => ?_)
      · have c554 : x553.toInt ≤ i.toInt := c554
        refine gw_skip _ ?_
        refine z_C (m := 0) rfl rfl (fun x555 ex555 => ?_)
        refine gw_st rfl rfl rfl ?_
        show ez_gw _ _ _ _ _ _ _ _ [some (.ref 71), some (.int la), some (.int kd), some (.int x555)] _ _ _
        exact ez_Wp_at (ih.2.2 h2 la kd x555 F (by omega) (aR_le A_L (by omega)) ((by rw [show x555.toInt.toNat = 0 by omega]; exact aR_0 _ _ _)) (by omega)) rfl
      · have c554 : ¬ (x553.toInt ≤ i.toInt) := c554
        refine gw_ld rfl rfl ?_
        refine z_gR (q := 120) (zT S2 (by decide) rfl) (zRf S2 (by decide) (by decide) rfl) (by decide) ?_
        refine gw_ld rfl rfl ?_
        refine gw_ld rfl rfl ?_
        refine z_C (m := 144) rfl rfl (fun x556 ex556 => ?_)
        refine z_b2 (fun c557 => ?_) (fun c557 => ?_)
        · have c557 : x556.toInt ≤ i.toInt := c557
          refine gw_skip _ ?_
          refine gw_ld rfl rfl ?_
          refine z_C (m := 256) rfl rfl (fun x558 ex558 => ?_)
          refine z_b2 (fun c559 => ?_) (fun c559 => ?_)
          · have c559 : x558.toInt ≤ i.toInt := c559
            refine gw_skip _ ?_
            refine gw_ld rfl rfl ?_
            refine z_C (m := 280) rfl rfl (fun x560 ex560 => ?_)
            refine z_b2 (fun c561 => ?_) (fun c561 => ?_)
            · have c561 : x560.toInt ≤ i.toInt := c561
              refine gw_skip _ ?_
              refine z_C (m := 8) rfl rfl (fun x562 ex562 => ?_)
              refine z_is (n := 288) (zT S2 (by decide) rfl) (zN S2 (by decide) rfl) (by omega) (fun h563 e564 => ?_)
              have S565 := zSh_set S2 e564
              have F566 := zG_setA F e564 (by decide) (by decide)
              have f567 : ez_I h563 71 0 = (ez_I h2 71 0) := (zI_ne e564 (by omega)).trans (rfl)
              have f568 : ez_I h563 71 7 = (ez_I h2 71 7) := (zI_ne e564 (by omega)).trans (rfl)
              have f569 : ez_I h563 71 59 = (ez_I h2 71 59) := (zI_ne e564 (by omega)).trans (rfl)
              have f570 : ez_I h563 71 60 = (ez_I h2 71 60) := (zI_ne e564 (by omega)).trans (rfl)
              have f571 : ez_I h563 71 61 = (ez_I h2 71 61) := (zI_ne e564 (by omega)).trans (rfl)
              have f572 : ez_I h563 71 62 = (ez_I h2 71 62) := (zI_ne e564 (by omega)).trans (rfl)
              have f573 : ez_I h563 71 63 = (ez_I h2 71 63) := (zI_ne e564 (by omega)).trans (rfl)
              have A574 : aR (ez_I h563 120) (i.toInt.toNat + 1) 0 15 := aR_ex A_L e564 (by omega) (by omega)
              refine z_inc rfl (by rw [show (1 : Int32).toInt = 1 from rfl]; omega) (fun x575 ex575 => ?_)
              rw [show (1 : Int32).toInt = 1 from rfl] at ex575
              show ez_gw _ _ _ _ _ _ _ _ [some (.ref 71), some (.int la), some (.int kd), some (.int x575)] _ _ _
              refine z_go ?_
              have t576 := congrArg Int32.toInt (f567)
              have t577 := congrArg Int32.toInt (f568)
              have t578 := congrArg Int32.toInt (f569)
              have t579 := congrArg Int32.toInt (f570)
              have t580 := congrArg Int32.toInt (f571)
              have t581 := congrArg Int32.toInt (f572)
              have t582 := congrArg Int32.toInt (f573)
              exact ih.2.1 h563 la kd x575 F566 (by omega) (aR_le A574 (by omega)) (by omega)
            · have c561 : ¬ (x560.toInt ≤ i.toInt) := c561
              refine z_C (m := 7) rfl rfl (fun x583 ex583 => ?_)
              refine z_go ?_
              refine gw_skip _ ?_
              refine z_is (n := 288) (zT S2 (by decide) rfl) (zN S2 (by decide) rfl) (by omega) (fun h584 e585 => ?_)
              have S586 := zSh_set S2 e585
              have F587 := zG_setA F e585 (by decide) (by decide)
              have f588 : ez_I h584 71 0 = (ez_I h2 71 0) := (zI_ne e585 (by omega)).trans (rfl)
              have f589 : ez_I h584 71 7 = (ez_I h2 71 7) := (zI_ne e585 (by omega)).trans (rfl)
              have f590 : ez_I h584 71 59 = (ez_I h2 71 59) := (zI_ne e585 (by omega)).trans (rfl)
              have f591 : ez_I h584 71 60 = (ez_I h2 71 60) := (zI_ne e585 (by omega)).trans (rfl)
              have f592 : ez_I h584 71 61 = (ez_I h2 71 61) := (zI_ne e585 (by omega)).trans (rfl)
              have f593 : ez_I h584 71 62 = (ez_I h2 71 62) := (zI_ne e585 (by omega)).trans (rfl)
              have f594 : ez_I h584 71 63 = (ez_I h2 71 63) := (zI_ne e585 (by omega)).trans (rfl)
              have A595 : aR (ez_I h584 120) (i.toInt.toNat + 1) 0 15 := aR_ex A_L e585 (by omega) (by omega)
              refine z_inc rfl (by rw [show (1 : Int32).toInt = 1 from rfl]; omega) (fun x596 ex596 => ?_)
              rw [show (1 : Int32).toInt = 1 from rfl] at ex596
              show ez_gw _ _ _ _ _ _ _ _ [some (.ref 71), some (.int la), some (.int kd), some (.int x596)] _ _ _
              refine z_go ?_
              have t597 := congrArg Int32.toInt (f588)
              have t598 := congrArg Int32.toInt (f589)
              have t599 := congrArg Int32.toInt (f590)
              have t600 := congrArg Int32.toInt (f591)
              have t601 := congrArg Int32.toInt (f592)
              have t602 := congrArg Int32.toInt (f593)
              have t603 := congrArg Int32.toInt (f594)
              exact ih.2.1 h584 la kd x596 F587 (by omega) (aR_le A595 (by omega)) (by omega)
          · have c559 : ¬ (x558.toInt ≤ i.toInt) := c559
            refine z_C (m := 9) rfl rfl (fun x604 ex604 => ?_)
            refine z_go ?_
            refine gw_skip _ ?_
            refine z_is (n := 288) (zT S2 (by decide) rfl) (zN S2 (by decide) rfl) (by omega) (fun h605 e606 => ?_)
            have S607 := zSh_set S2 e606
            have F608 := zG_setA F e606 (by decide) (by decide)
            have f609 : ez_I h605 71 0 = (ez_I h2 71 0) := (zI_ne e606 (by omega)).trans (rfl)
            have f610 : ez_I h605 71 7 = (ez_I h2 71 7) := (zI_ne e606 (by omega)).trans (rfl)
            have f611 : ez_I h605 71 59 = (ez_I h2 71 59) := (zI_ne e606 (by omega)).trans (rfl)
            have f612 : ez_I h605 71 60 = (ez_I h2 71 60) := (zI_ne e606 (by omega)).trans (rfl)
            have f613 : ez_I h605 71 61 = (ez_I h2 71 61) := (zI_ne e606 (by omega)).trans (rfl)
            have f614 : ez_I h605 71 62 = (ez_I h2 71 62) := (zI_ne e606 (by omega)).trans (rfl)
            have f615 : ez_I h605 71 63 = (ez_I h2 71 63) := (zI_ne e606 (by omega)).trans (rfl)
            have A616 : aR (ez_I h605 120) (i.toInt.toNat + 1) 0 15 := aR_ex A_L e606 (by omega) (by omega)
            refine z_inc rfl (by rw [show (1 : Int32).toInt = 1 from rfl]; omega) (fun x617 ex617 => ?_)
            rw [show (1 : Int32).toInt = 1 from rfl] at ex617
            show ez_gw _ _ _ _ _ _ _ _ [some (.ref 71), some (.int la), some (.int kd), some (.int x617)] _ _ _
            refine z_go ?_
            have t618 := congrArg Int32.toInt (f609)
            have t619 := congrArg Int32.toInt (f610)
            have t620 := congrArg Int32.toInt (f611)
            have t621 := congrArg Int32.toInt (f612)
            have t622 := congrArg Int32.toInt (f613)
            have t623 := congrArg Int32.toInt (f614)
            have t624 := congrArg Int32.toInt (f615)
            exact ih.2.1 h605 la kd x617 F608 (by omega) (aR_le A616 (by omega)) (by omega)
        · have c557 : ¬ (x556.toInt ≤ i.toInt) := c557
          refine z_C (m := 8) rfl rfl (fun x625 ex625 => ?_)
          refine z_go ?_
          refine gw_skip _ ?_
          refine z_is (n := 288) (zT S2 (by decide) rfl) (zN S2 (by decide) rfl) (by omega) (fun h626 e627 => ?_)
          have S628 := zSh_set S2 e627
          have F629 := zG_setA F e627 (by decide) (by decide)
          have f630 : ez_I h626 71 0 = (ez_I h2 71 0) := (zI_ne e627 (by omega)).trans (rfl)
          have f631 : ez_I h626 71 7 = (ez_I h2 71 7) := (zI_ne e627 (by omega)).trans (rfl)
          have f632 : ez_I h626 71 59 = (ez_I h2 71 59) := (zI_ne e627 (by omega)).trans (rfl)
          have f633 : ez_I h626 71 60 = (ez_I h2 71 60) := (zI_ne e627 (by omega)).trans (rfl)
          have f634 : ez_I h626 71 61 = (ez_I h2 71 61) := (zI_ne e627 (by omega)).trans (rfl)
          have f635 : ez_I h626 71 62 = (ez_I h2 71 62) := (zI_ne e627 (by omega)).trans (rfl)
          have f636 : ez_I h626 71 63 = (ez_I h2 71 63) := (zI_ne e627 (by omega)).trans (rfl)
          have A637 : aR (ez_I h626 120) (i.toInt.toNat + 1) 0 15 := aR_ex A_L e627 (by omega) (by omega)
          refine z_inc rfl (by rw [show (1 : Int32).toInt = 1 from rfl]; omega) (fun x638 ex638 => ?_)
          rw [show (1 : Int32).toInt = 1 from rfl] at ex638
          show ez_gw _ _ _ _ _ _ _ _ [some (.ref 71), some (.int la), some (.int kd), some (.int x638)] _ _ _
          refine z_go ?_
          have t639 := congrArg Int32.toInt (f630)
          have t640 := congrArg Int32.toInt (f631)
          have t641 := congrArg Int32.toInt (f632)
          have t642 := congrArg Int32.toInt (f633)
          have t643 := congrArg Int32.toInt (f634)
          have t644 := congrArg Int32.toInt (f635)
          have t645 := congrArg Int32.toInt (f636)
          exact ih.2.1 h626 la kd x638 F629 (by omega) (aR_le A637 (by omega)) (by omega)
    · skip
      have w_la := z_rng la
      have w_kd := z_rng kd
      have w_i := z_rng i
      have M6 := M.1.1
      have M7 := M.1.2.1
      have M14 := M.1.2.2.1
      have M15 := M.1.2.2.2
      have MC := M.2
      have S2 := zG_sh F S
      apply ez_Wp_in
      show ez_gw _ _ _ _ _ _ (cz_60) _ _ _ _ _
      refine gw_skip _ ?_
      have r646 := z_rng (ez_I h2 71 0)
      have r647 := z_rng (ez_I h2 71 7)
      have r648 := z_rng (ez_I h2 71 59)
      have r649 := z_rng (ez_I h2 71 60)
      have r650 := z_rng (ez_I h2 71 61)
      have r651 := z_rng (ez_I h2 71 62)
      have r652 := z_rng (ez_I h2 71 63)
      refine gw_ld rfl rfl ?_
      refine z_C (m := 32) rfl rfl (fun x653 ex653 => ?_)
      refine z_b2 (fun c654 => ?_) (fun c654 => ?_)
      · have c654 : x653.toInt ≤ i.toInt := c654
        refine gw_skip _ ?_
        refine gw_ld rfl rfl ?_
        refine z_C (m := 2) rfl rfl (fun x655 ex655 => ?_)
        refine z_b2 (fun c656 => ?_) (fun c656 => ?_)
        · have c656 : kd.toInt ≠ x655.toInt := c656
          refine gw_skip _ ?_
          refine gw_ld rfl rfl ?_
          refine z_C (m := 1) rfl rfl (fun x657 ex657 => ?_)
          refine z_b2 (fun c658 => ?_) (fun c658 => ?_)
          · have c658 : kd.toInt = x657.toInt := c658
            refine gw_skip _ ?_
            refine gw_ld rfl rfl ?_
            refine z_gI2 (by decide) (zT S2 (by decide) rfl) (rfl) ?_
            refine z_b1 (fun c659 => ?_) (fun c659 => ?_)
            · have c659 : ((ez_I h2 71 61)).toInt ≠ 0 := c659
              refine gw_skip _ ?_
              refine z_go ?_
              exact ih.1 h2 la (some (.int kd)) (some (.int i)) 1 F (by omega)  (by omega)
            · have c659 : ¬ (((ez_I h2 71 61)).toInt ≠ 0) := c659
              refine gw_ld rfl rfl ?_
              refine z_cl rfl rfl rfl rfl rfl rfl rfl rfl rfl rfl rfl (zT S2 (by decide) rfl) ?_
              refine m_uc S2 (by rw [zG_f F (k := 6) (by decide)]; exact M6) (by rw [show ez_I h2 71 6 = ez_I h 71 6 from zG_f F (by decide)]; omega) (by omega) (by omega) (cC_G MC F (fun q hq => by omega)) (A_L) ((aR_le A_B (by omega))) (fun h660  F661 k662 => ?_)
              rw [show ez_I h2 71 6 = ez_I h 71 6 from zG_f F (by decide)] at k662
              have S663 := zG_sh F661 S2
              have F664 := zG_tr F (zG_mono F661 (fun k hk => by first | omega | exact False.elim hk) (fun k hk => by first | omega | exact False.elim hk))
              have f665 : ez_I h660 71 0 = (ez_I h2 71 0) := (zG_f F661 (by decide)).trans (rfl)
              have f666 : ez_I h660 71 7 = (ez_I h2 71 7) := (zG_f F661 (by decide)).trans (rfl)
              have r667 := z_rng (ez_I h660 71 59)
              have r668 := z_rng (ez_I h660 71 60)
              have r669 := z_rng (ez_I h660 71 61)
              have f670 : ez_I h660 71 62 = (ez_I h2 71 62) := (zG_f F661 (by decide)).trans (rfl)
              have f671 : ez_I h660 71 63 = (ez_I h2 71 63) := (zG_f F661 (by decide)).trans (rfl)
              have A672 : aR (ez_I h660 120) 288 0 15 := by rw [zG_fn F661 120 (by decide) (by first | omega | exact fun c => c)]; exact A_L
              have A673 : aR (ez_I h660 121) 32 0 15 := by rw [zG_fn F661 121 (by decide) (by first | omega | exact fun c => c)]; exact (aR_le A_B (by omega))
              refine z_go ?_
              have t674 := congrArg Int32.toInt (f665)
              have t675 := congrArg Int32.toInt (f666)
              have t676 := congrArg Int32.toInt (f670)
              have t677 := congrArg Int32.toInt (f671)
              exact ih.1 h660 la (some (.int kd)) (some (.int i)) 1 F664 (by omega)  (by omega)
          · have c658 : ¬ (kd.toInt = x657.toInt) := c658
            refine gw_ld rfl rfl ?_
            refine z_C (m := 2) rfl rfl (fun x678 ex678 => ?_)
            refine z_b2 (fun c679 => ?_) (fun c679 => ?_)
            · have c679 : kd.toInt ≠ x678.toInt := c679
              refine gw_skip _ ?_
              refine z_go ?_
              exact ih.1 h2 la (some (.int kd)) (some (.int i)) 1 F (by omega)  (by omega)
            · have c679 : ¬ (kd.toInt ≠ x678.toInt) := c679
              exfalso; omega
        · have c656 : ¬ (kd.toInt ≠ x655.toInt) := c656
          refine gw_ld rfl rfl ?_
          refine z_cl rfl rfl rfl rfl rfl rfl rfl rfl rfl rfl rfl (zT S2 (by decide) rfl) ?_
          refine m_rl S2 (by rw [zG_f F (k := 6) (by decide)]; exact M6) (by rw [show ez_I h2 71 6 = ez_I h 71 6 from zG_f F (by decide)]; omega) (by omega) (cC_G MC F (fun q hq => by omega)) (fun h680  F681 k682 k683 => ?_)
          rw [show ez_I h2 71 6 = ez_I h 71 6 from zG_f F (by decide)] at k682
          have S684 := zG_sh F681 S2
          have F685 := zG_tr F (zG_mono F681 (fun k hk => by first | omega | exact False.elim hk) (fun k hk => by first | omega | exact False.elim hk))
          have f686 : ez_I h680 71 0 = (ez_I h2 71 0) := (zG_f F681 (by decide)).trans (rfl)
          have f687 : ez_I h680 71 7 = (ez_I h2 71 7) := (zG_f F681 (by decide)).trans (rfl)
          have r688 := z_rng (ez_I h680 71 59)
          have f689 : ez_I h680 71 60 = (ez_I h2 71 60) := (zG_f F681 (by decide)).trans (rfl)
          have r690 := z_rng (ez_I h680 71 61)
          have f691 : ez_I h680 71 62 = (ez_I h2 71 62) := (zG_f F681 (by decide)).trans (rfl)
          have f692 : ez_I h680 71 63 = (ez_I h2 71 63) := (zG_f F681 (by decide)).trans (rfl)
          refine gw_ld rfl rfl ?_
          refine z_C (m := 1) rfl rfl (fun x693 ex693 => ?_)
          refine z_b2 (fun c694 => ?_) (fun c694 => ?_)
          · have c694 : kd.toInt = x693.toInt := c694
            exfalso; omega
          · have c694 : ¬ (kd.toInt = x693.toInt) := c694
            refine gw_ld rfl rfl ?_
            refine z_C (m := 2) rfl rfl (fun x695 ex695 => ?_)
            refine z_b2 (fun c696 => ?_) (fun c696 => ?_)
            · have c696 : kd.toInt ≠ x695.toInt := c696
              exfalso; omega
            · have c696 : ¬ (kd.toInt ≠ x695.toInt) := c696
              refine gw_ld rfl rfl ?_
              refine z_gI2 (by decide) (zT S684 (by decide) rfl) (rfl) ?_
              refine z_b1 (fun c697 => ?_) (fun c697 => ?_)
              · have c697 : ((ez_I h680 71 61)).toInt ≠ 0 := c697
                refine gw_skip _ ?_
                refine z_go ?_
                have t698 := congrArg Int32.toInt (f686)
                have t699 := congrArg Int32.toInt (f687)
                have t700 := congrArg Int32.toInt (f689)
                have t701 := congrArg Int32.toInt (f691)
                have t702 := congrArg Int32.toInt (f692)
                exact ih.1 h680 la (some (.int kd)) (some (.int i)) 1 F685 (by omega)  (by omega)
              · have c697 : ¬ (((ez_I h680 71 61)).toInt ≠ 0) := c697
                refine gw_ld rfl rfl ?_
                have t703 := congrArg Int32.toInt (f686)
                have t704 := congrArg Int32.toInt (f687)
                have t705 := congrArg Int32.toInt (f689)
                have t706 := congrArg Int32.toInt (f691)
                have t707 := congrArg Int32.toInt (f692)
                refine z_cl rfl rfl rfl rfl rfl rfl rfl rfl rfl rfl rfl (zT S684 (by decide) rfl) ?_
                refine m_uc S684 (by rw [zG_f F685 (k := 6) (by decide)]; exact M6) (by rw [show ez_I h680 71 6 = ez_I h 71 6 from zG_f F685 (by decide)]; omega) (by omega) (by omega) (cC_G MC F685 (fun q hq => by omega)) ((k683 (by omega)).1) ((k683 (by omega)).2) (fun h708  F709 k710 => ?_)
                rw [show ez_I h680 71 6 = ez_I h 71 6 from zG_f F685 (by decide)] at k710
                have S711 := zG_sh F709 S684
                have F712 := zG_tr F685 (zG_mono F709 (fun k hk => by first | omega | exact False.elim hk) (fun k hk => by first | omega | exact False.elim hk))
                have f713 : ez_I h708 71 0 = (ez_I h2 71 0) := (zG_f F709 (by decide)).trans (f686)
                have f714 : ez_I h708 71 7 = (ez_I h2 71 7) := (zG_f F709 (by decide)).trans (f687)
                have r715 := z_rng (ez_I h708 71 59)
                have r716 := z_rng (ez_I h708 71 60)
                have r717 := z_rng (ez_I h708 71 61)
                have f718 : ez_I h708 71 62 = (ez_I h2 71 62) := (zG_f F709 (by decide)).trans (f691)
                have f719 : ez_I h708 71 63 = (ez_I h2 71 63) := (zG_f F709 (by decide)).trans (f692)
                have A720 : ((ez_I h680 71 61).toInt = 0 → aR (ez_I h708 120) 288 0 15 ∧ aR (ez_I h708 121) 32 0 15) := by rw [zG_fn F709 120 (by decide) (by first | omega | exact fun c => c), zG_fn F709 121 (by decide) (by first | omega | exact fun c => c)]; exact k683
                refine z_go ?_
                have t721 := congrArg Int32.toInt (f713)
                have t722 := congrArg Int32.toInt (f714)
                have t723 := congrArg Int32.toInt (f718)
                have t724 := congrArg Int32.toInt (f719)
                exact ih.1 h708 la (some (.int kd)) (some (.int i)) 1 F712 (by omega)  (by omega)
      · have c654 : ¬ (x653.toInt ≤ i.toInt) := c654
        refine gw_ld rfl rfl ?_
        refine z_gR (q := 121) (zT S2 (by decide) rfl) (zRf S2 (by decide) (by decide) rfl) (by decide) ?_
        refine gw_ld rfl rfl ?_
        refine z_C (m := 5) rfl rfl (fun x725 ex725 => ?_)
        refine z_is (n := 32) (zT S2 (by decide) rfl) (zN S2 (by decide) rfl) (by omega) (fun h726 e727 => ?_)
        have S728 := zSh_set S2 e727
        have F729 := zG_setA F e727 (by decide) (by decide)
        have f730 : ez_I h726 71 0 = (ez_I h2 71 0) := (zI_ne e727 (by omega)).trans (rfl)
        have f731 : ez_I h726 71 7 = (ez_I h2 71 7) := (zI_ne e727 (by omega)).trans (rfl)
        have f732 : ez_I h726 71 59 = (ez_I h2 71 59) := (zI_ne e727 (by omega)).trans (rfl)
        have f733 : ez_I h726 71 60 = (ez_I h2 71 60) := (zI_ne e727 (by omega)).trans (rfl)
        have f734 : ez_I h726 71 61 = (ez_I h2 71 61) := (zI_ne e727 (by omega)).trans (rfl)
        have f735 : ez_I h726 71 62 = (ez_I h2 71 62) := (zI_ne e727 (by omega)).trans (rfl)
        have f736 : ez_I h726 71 63 = (ez_I h2 71 63) := (zI_ne e727 (by omega)).trans (rfl)
        have A737 : aR (ez_I h726 120) 288 0 15 := by rw [zI_fn e727 120 (by decide)]; exact A_L
        have A738 : aR (ez_I h726 121) (i.toInt.toNat + 1) 0 15 := aR_ex A_B e727 (by omega) (by omega)
        refine z_inc rfl (by rw [show (1 : Int32).toInt = 1 from rfl]; omega) (fun x739 ex739 => ?_)
        rw [show (1 : Int32).toInt = 1 from rfl] at ex739
        show ez_gw _ _ _ _ _ _ _ _ [some (.ref 71), some (.int la), some (.int kd), some (.int x739)] _ _ _
        refine z_go ?_
        have t740 := congrArg Int32.toInt (f730)
        have t741 := congrArg Int32.toInt (f731)
        have t742 := congrArg Int32.toInt (f732)
        have t743 := congrArg Int32.toInt (f733)
        have t744 := congrArg Int32.toInt (f734)
        have t745 := congrArg Int32.toInt (f735)
        have t746 := congrArg Int32.toInt (f736)
        exact ih.2.2 h726 la kd x739 F729 (by omega) (aR_le A737 (by omega)) (aR_le A738 (by omega)) (by omega)
set_option maxRecDepth 4000 in
set_option maxHeartbeats 20000000 in
theorem m_unpack {E : Nat → Nat × (Nat → Int32)} {d : Nat} {Q : ez_Q} {h : ez_H}  (S : zSh h) (M : mI h) (K : ∀ h2 (x : Int32), zF zY h h2 → mI h2 → Q (.inl (some (.int x))) h2) : pw E (d + 3) 60 0 [some (.ref 71), none, none, none] [] h Q := by
  have M6 := M.1.1
  have M7 := M.1.2.1
  have M14 := M.1.2.2.1
  have M15 := M.1.2.2.2
  have MC := M.2
  have F := zG_refl (fun k => k = 0 ∨ k = 7 ∨ k = 59 ∨ k = 60 ∨ k = 61 ∨ k = 62 ∨ k = 63) (fun q => q = 73 ∨ q = 76 ∨ q = 115 ∨ 120 ≤ q ∧ q ≤ 123) h
  apply ez_Wp_in
  show ez_gw _ _ _ _ _ _ (cz_60) _ _ _ _ _
  refine gw_skip _ ?_
  have r1 := z_rng (ez_I h 71 0)
  have r2 := z_rng (ez_I h 71 7)
  have r3 := z_rng (ez_I h 71 59)
  have r4 := z_rng (ez_I h 71 60)
  have r5 := z_rng (ez_I h 71 61)
  have r6 := z_rng (ez_I h 71 62)
  have r7 := z_rng (ez_I h 71 63)
  refine gw_ld rfl rfl ?_
  refine z_C (m := 0) rfl rfl (fun x8 ex8 => ?_)
  refine z_pI (zT S (by decide) rfl) (fun h9 e10 => ?_)
  have S11 := zSh_set S e10
  have F12 := zG_setF F e10 (by decide)
  have f13 : ez_I h9 71 0 = (ez_I h 71 0) := (zI_ne e10 (by decide)).trans (rfl)
  have f14 : ez_I h9 71 7 = (ez_I h 71 7) := (zI_ne e10 (by decide)).trans (rfl)
  have f15 : ez_I h9 71 59 = x8 := zI_eq e10
  have f16 : ez_I h9 71 60 = (ez_I h 71 60) := (zI_ne e10 (by decide)).trans (rfl)
  have f17 : ez_I h9 71 61 = (ez_I h 71 61) := (zI_ne e10 (by decide)).trans (rfl)
  have f18 : ez_I h9 71 62 = (ez_I h 71 62) := (zI_ne e10 (by decide)).trans (rfl)
  have f19 : ez_I h9 71 63 = (ez_I h 71 63) := (zI_ne e10 (by decide)).trans (rfl)
  refine gw_ld rfl rfl ?_
  refine z_C (m := 0) rfl rfl (fun x20 ex20 => ?_)
  refine z_pI (zT S11 (by decide) rfl) (fun h21 e22 => ?_)
  have S23 := zSh_set S11 e22
  have F24 := zG_setF F12 e22 (by decide)
  have f25 : ez_I h21 71 0 = (ez_I h 71 0) := (zI_ne e22 (by decide)).trans (f13)
  have f26 : ez_I h21 71 7 = (ez_I h 71 7) := (zI_ne e22 (by decide)).trans (f14)
  have f27 : ez_I h21 71 59 = x8 := (zI_ne e22 (by decide)).trans (f15)
  have f28 : ez_I h21 71 60 = x20 := zI_eq e22
  have f29 : ez_I h21 71 61 = (ez_I h 71 61) := (zI_ne e22 (by decide)).trans (f17)
  have f30 : ez_I h21 71 62 = (ez_I h 71 62) := (zI_ne e22 (by decide)).trans (f18)
  have f31 : ez_I h21 71 63 = (ez_I h 71 63) := (zI_ne e22 (by decide)).trans (f19)
  refine gw_ld rfl rfl ?_
  refine z_C (m := 0) rfl rfl (fun x32 ex32 => ?_)
  refine z_pI (zT S23 (by decide) rfl) (fun h33 e34 => ?_)
  have S35 := zSh_set S23 e34
  have F36 := zG_setF F24 e34 (by decide)
  have f37 : ez_I h33 71 0 = (ez_I h 71 0) := (zI_ne e34 (by decide)).trans (f25)
  have f38 : ez_I h33 71 7 = (ez_I h 71 7) := (zI_ne e34 (by decide)).trans (f26)
  have f39 : ez_I h33 71 59 = x8 := (zI_ne e34 (by decide)).trans (f27)
  have f40 : ez_I h33 71 60 = x20 := (zI_ne e34 (by decide)).trans (f28)
  have f41 : ez_I h33 71 61 = x32 := zI_eq e34
  have f42 : ez_I h33 71 62 = (ez_I h 71 62) := (zI_ne e34 (by decide)).trans (f30)
  have f43 : ez_I h33 71 63 = (ez_I h 71 63) := (zI_ne e34 (by decide)).trans (f31)
  refine z_C (m := 0) rfl rfl (fun x44 ex44 => ?_)
  refine gw_st rfl rfl rfl ?_
  show ez_gw _ _ _ _ _ _ _ _ [some (.ref 71), some (.int x44), none, none] _ _ _
  have t45 := congrArg Int32.toInt (f37)
  have t46 := congrArg Int32.toInt (f38)
  have t47 := congrArg Int32.toInt (f39)
  have t48 := congrArg Int32.toInt (f40)
  have t49 := congrArg Int32.toInt (f41)
  have t50 := congrArg Int32.toInt (f42)
  have t51 := congrArg Int32.toInt (f43)
  exact ez_Wp_at ((m_unpack_L0  S M K (((1000 * (50000 - (ez_I h33 71 59).toInt) + 10 * (1 : Int))).toNat + 1)).1 h33 x44 (none) (none) 1 F36 (by omega)  (by omega)) rfl
