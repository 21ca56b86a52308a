/-! PRINTED by wip/pack: the class: counts told -/
set_option maxRecDepth 4000 in
set_option maxHeartbeats 20000000 in
theorem c_told_L0 {E : Nat → Nat × (Nat → Int32)} {d : Nat} {Q : ez_Q} {h : ez_H} {w : Nat} {m : Int32} {f : Int32} (S : zSh h) {nw : Nat} (hw : zA w nw) (hb : 1 ≤ f.toInt ∧ f.toInt ≤ m.toInt ∧ m.toInt ≤ nw ∧ nw ≤ 1000) (hR : aR (ez_I h w) nw 0 15) (K : ∀ x : Int32, x.toInt = (tdM (nL (ez_I h w)) f.toInt.toNat (m.toInt.toNat - f.toInt.toNat) : Nat) → Q (.inl (some (.int x))) h) : ∀ N : Nat, (∀ (h2 : ez_H) (t : Int32) , zW (fun _ _ => False) (fun _ => False) (fun _ => False) h h2 → (f.toInt ≤ t.toInt ∧ t.toInt ≤ m.toInt) → tdM (nL (ez_I h w)) f.toInt.toNat (t.toInt.toNat - f.toInt.toNat) = tdM (nL (ez_I h w)) f.toInt.toNat (m.toInt.toNat - f.toInt.toNat) → (t.toInt + 1) < (N : Int) → pw E d 91 7 [some (.ref w), some (.int m), some (.int f), some (.int t)] [] h2 Q) := by
  intro N
  induction N with
  | zero => exact fun h2 t  F hinv A_td hm => absurd hm (by have w_t := z_rng t; have gm := z_rng m; have gf := z_rng f; omega)
  | succ N ih =>
    refine fun h2 t  F hinv A_td hm => ?_
    · skip
      have w_t := z_rng t
      have gm := z_rng m
      have gf := z_rng f
      have S2 := zW_sh F S
      apply ez_Wp_in
      show ez_gw _ _ _ _ _ _ (cz_91) _ _ _ _ _
      refine gw_skip _ ?_
      refine gw_ld rfl rfl ?_
      refine gw_ld rfl rfl ?_
      refine z_b2 (fun c1 => ?_) (fun c1 => ?_)
      · have c1 : t.toInt ≤ f.toInt := c1
        refine gw_skip _ ?_
        refine gw_ld rfl rfl ?_
        refine z_ri ?_
        exact zW_Q F (K _ (by rw [← A_td]; rw [show t.toInt.toNat - f.toInt.toNat = 0 by omega]; show t.toInt = ((f.toInt.toNat : Nat) : Int); omega))
      · have c1 : ¬ (t.toInt ≤ f.toInt) := c1
        refine gw_ld rfl rfl ?_
        refine gw_ld rfl rfl ?_
        refine z_C (m := 1) rfl rfl (fun x2 ex2 => ?_)
        refine z_sub (by omega) (fun x3 ex3 => ?_)
        refine z_iaV (n := nw) ((hw _ S2).1) ((hw _ S2).2) (by omega) (zW_f F (fun c => c) (fun c => c)) ?_
        generalize ex4 : ez_I h w x3.toInt.toNat = x4
        have rx4 := z_rng x4
        have yx4 := hR x3.toInt.toNat (by omega)
        rw [ex4] at yx4
        refine z_b1 (fun c5 => ?_) (fun c5 => ?_)
        · have c5 : x4.toInt ≠ 0 := c5
          refine gw_skip _ ?_
          refine gw_ld rfl rfl ?_
          refine z_ri ?_
          exact zW_Q F (K _ (by rw [← A_td]; rw [show t.toInt.toNat - f.toInt.toNat = t.toInt.toNat - f.toInt.toNat - 1 + 1 by omega, tdM_1 (by show (ez_I h w (f.toInt.toNat + (t.toInt.toNat - f.toInt.toNat - 1))).toInt.toNat ≠ 0; rw [show f.toInt.toNat + (t.toInt.toNat - f.toInt.toNat - 1) = x3.toInt.toNat by omega, ex4]; omega)]; omega))
        · have c5 : ¬ (x4.toInt ≠ 0) := c5
          refine z_inc rfl (by rw [show ((-1) : Int32).toInt = (-1) from rfl]; omega) (fun x6 ex6 => ?_)
          rw [show ((-1) : Int32).toInt = (-1) from rfl] at ex6
          show ez_gw _ _ _ _ _ _ _ _ [some (.ref w), some (.int m), some (.int f), some (.int x6)] _ _ _
          refine z_go ?_
          exact ih h2 x6 F (by omega) ((by rw [← A_td, show t.toInt.toNat - f.toInt.toNat = x6.toInt.toNat - f.toInt.toNat + 1 by omega, tdM_0 (by show (ez_I h w (f.toInt.toNat + (x6.toInt.toNat - f.toInt.toNat))).toInt.toNat = 0; rw [show f.toInt.toNat + (x6.toInt.toNat - f.toInt.toNat) = x3.toInt.toNat by omega, ex4]; omega)])) (by omega)
set_option maxRecDepth 4000 in
set_option maxHeartbeats 20000000 in
theorem c_told {E : Nat → Nat × (Nat → Int32)} {d : Nat} {Q : ez_Q} {h : ez_H} {w : Nat} {m : Int32} {f : Int32} (S : zSh h) {nw : Nat} (hw : zA w nw) (hb : 1 ≤ f.toInt ∧ f.toInt ≤ m.toInt ∧ m.toInt ≤ nw ∧ nw ≤ 1000) (hR : aR (ez_I h w) nw 0 15) (K : ∀ x : Int32, x.toInt = (tdM (nL (ez_I h w)) f.toInt.toNat (m.toInt.toNat - f.toInt.toNat) : Nat) → Q (.inl (some (.int x))) h) : pw E d 91 0 [some (.ref w), some (.int m), some (.int f), none] [] h Q := by
  have gm := z_rng m
  have gf := z_rng f
  have F := zW_refl (fun _ _ => False) (fun _ => False) (fun _ => False) h
  apply ez_Wp_in
  show ez_gw _ _ _ _ _ _ (cz_91) _ _ _ _ _
  refine gw_skip _ ?_
  refine gw_ld rfl rfl ?_
  refine gw_ld rfl rfl ?_
  refine z_al (n := nw) (.inl ((hw _ S).1)) ((hw _ S).2) (by omega) (fun x1 ex1 => ?_)
  refine z_min rfl (fun x2 ex2 => ?_)
  refine gw_st rfl rfl rfl ?_
  show ez_gw _ _ _ _ _ _ _ _ [some (.ref w), some (.int m), some (.int f), some (.int x2)] _ _ _
  exact ez_Wp_at ((c_told_L0 (w := w) (m := m) (f := f) S hw hb hR K (((x2.toInt + 1)).toNat + 1)) h x2 F (by omega) ((by rw [show x2.toInt.toNat = m.toInt.toNat by omega])) (by omega)) rfl
set_option maxRecDepth 4000 in
set_option maxHeartbeats 20000000 in
theorem c_tOrd_L0 {E : Nat → Nat × (Nat → Int32)} {d : Nat} {Q : ez_Q} {h : ez_H} {w : Nat} (S : zSh h) {nw : Nat} (hE : zE E) (hw : zA w nw) (hb : 19 ≤ nw ∧ nw ≤ 1000) (hR : aR (ez_I h w) 19 0 15) (K : ∀ x : Int32, x.toInt = (tdM (fun k => nL (ez_I h w) (ORf k)) 4 15 : Nat) → Q (.inl (some (.int x))) h) : ∀ N : Nat, (∀ (h2 : ez_H) (t : Int32) , zW (fun _ _ => False) (fun _ => False) (fun _ => False) h h2 → (4 ≤ t.toInt ∧ t.toInt ≤ 19) → tdM (fun k => nL (ez_I h w) (ORf k)) 4 (t.toInt.toNat - 4) = tdM (fun k => nL (ez_I h w) (ORf k)) 4 15 → (t.toInt + 1) < (N : Int) → pw E d 92 3 [some (.ref w), some (.int t)] [] h2 Q) := by
  intro N
  induction N with
  | zero => exact fun h2 t  F hinv A_td hm => absurd hm (by have w_t := z_rng t; omega)
  | succ N ih =>
    refine fun h2 t  F hinv A_td hm => ?_
    · skip
      have w_t := z_rng t
      have S2 := zW_sh F S
      apply ez_Wp_in
      show ez_gw _ _ _ _ _ _ (cz_92) _ _ _ _ _
      refine gw_skip _ ?_
      refine gw_ld rfl rfl ?_
      refine z_C (m := 4) rfl rfl (fun x1 ex1 => ?_)
      refine z_b2 (fun c2 => ?_) (fun c2 => ?_)
      · have c2 : t.toInt ≤ x1.toInt := c2
        refine gw_skip _ ?_
        refine gw_ld rfl rfl ?_
        refine z_ri ?_
        exact zW_Q F (K _ (by rw [← A_td]; rw [show t.toInt.toNat - 4 = 0 by omega]; show t.toInt = ((4 : Nat) : Int); omega))
      · have c2 : ¬ (t.toInt ≤ x1.toInt) := c2
        refine gw_ld rfl rfl ?_
        refine z_gs ?_
        refine gw_ld rfl rfl ?_
        refine z_C (m := 1) rfl rfl (fun x3 ex3 => ?_)
        refine z_sub (by omega) (fun x4 ex4 => ?_)
        refine z_iaE (n := 19) (hE 7) (by omega) ?_
        generalize ex5 : (tz_ar (7 + 1)).getD x4.toInt.toNat 0 = x5
        have rx5 := z_rng x5
        have ox5 := tz_OR (n := x4.toInt.toNat) (by omega)
        rw [ex5] at ox5
        have ux5 := OR_lt x4.toInt.toNat
        refine z_iaV (n := nw) ((hw _ S2).1) ((hw _ S2).2) (by omega) (zW_f F (fun c => c) (fun c => c)) ?_
        generalize ex6 : ez_I h w x5.toInt.toNat = x6
        have rx6 := z_rng x6
        have yx6 := hR x5.toInt.toNat (by omega)
        rw [ex6] at yx6
        refine z_b1 (fun c7 => ?_) (fun c7 => ?_)
        · have c7 : x6.toInt ≠ 0 := c7
          refine gw_skip _ ?_
          refine gw_ld rfl rfl ?_
          refine z_ri ?_
          exact zW_Q F (K _ (by rw [← A_td]; rw [show t.toInt.toNat - 4 = t.toInt.toNat - 4 - 1 + 1 by omega, tdM_1 (by show (ez_I h w (ORf (4 + (t.toInt.toNat - 4 - 1)))).toInt.toNat ≠ 0; rw [show ORf (4 + (t.toInt.toNat - 4 - 1)) = x5.toInt.toNat by (rw [show 4 + (t.toInt.toNat - 4 - 1) = x4.toInt.toNat by omega]; omega), ex6]; omega)]; omega))
        · have c7 : ¬ (x6.toInt ≠ 0) := c7
          refine z_inc rfl (by rw [show ((-1) : Int32).toInt = (-1) from rfl]; omega) (fun x8 ex8 => ?_)
          rw [show ((-1) : Int32).toInt = (-1) from rfl] at ex8
          show ez_gw _ _ _ _ _ _ _ _ [some (.ref w), some (.int x8)] _ _ _
          refine z_go ?_
          exact ih h2 x8 F (by omega) ((by rw [← A_td, show t.toInt.toNat - 4 = x8.toInt.toNat - 4 + 1 by omega, tdM_0 (by show (ez_I h w (ORf (4 + (x8.toInt.toNat - 4)))).toInt.toNat = 0; rw [show ORf (4 + (x8.toInt.toNat - 4)) = x5.toInt.toNat by (rw [show 4 + (x8.toInt.toNat - 4) = x4.toInt.toNat by omega]; omega), ex6]; omega)])) (by omega)
set_option maxRecDepth 4000 in
set_option maxHeartbeats 20000000 in
theorem c_tOrd {E : Nat → Nat × (Nat → Int32)} {d : Nat} {Q : ez_Q} {h : ez_H} {w : Nat} (S : zSh h) {nw : Nat} (hE : zE E) (hw : zA w nw) (hb : 19 ≤ nw ∧ nw ≤ 1000) (hR : aR (ez_I h w) 19 0 15) (K : ∀ x : Int32, x.toInt = (tdM (fun k => nL (ez_I h w) (ORf k)) 4 15 : Nat) → Q (.inl (some (.int x))) h) : pw E d 92 0 [some (.ref w), none] [] h Q := by
  have F := zW_refl (fun _ _ => False) (fun _ => False) (fun _ => False) h
  apply ez_Wp_in
  show ez_gw _ _ _ _ _ _ (cz_92) _ _ _ _ _
  refine gw_skip _ ?_
  refine z_C (m := 19) rfl rfl (fun x1 ex1 => ?_)
  refine gw_st rfl rfl rfl ?_
  show ez_gw _ _ _ _ _ _ _ _ [some (.ref w), some (.int x1)] _ _ _
  exact ez_Wp_at ((c_tOrd_L0 (w := w) S hE hw hb hR K (((x1.toInt + 1)).toNat + 1)) h x1 F (by omega) ((by rw [show x1.toInt.toNat - 4 = 15 by omega])) (by omega)) rfl
set_option maxRecDepth 4000 in
set_option maxHeartbeats 20000000 in
theorem c_xbo {E : Nat → Nat × (Nat → Int32)} {d : Nat} {Q : ez_Q} {h : ez_H} {y : Int32} (S : zSh h) (hE : zE E) (hy : 0 ≤ y.toInt ∧ y.toInt ≤ 18) (K : ∀ x : Int32, x.toInt = (rEf y.toInt.toNat : Nat) → Q (.inl (some (.int x))) h) : pw E d 98 0 [some (.int y), none] [] h Q := by
  have gy := z_rng y
  have F := zW_refl (fun _ _ => False) (fun _ => False) (fun _ => False) h
  apply ez_Wp_in
  show ez_gw _ _ _ _ _ _ (cz_98) _ _ _ _ _
  refine gw_skip _ ?_
  refine gw_ld rfl rfl ?_
  refine z_C (m := 16) rfl rfl (fun x1 ex1 => ?_)
  refine z_sub (by omega) (fun x2 ex2 => ?_)
  refine gw_st rfl rfl rfl ?_
  show ez_gw _ _ _ _ _ _ _ _ [some (.int y), some (.int x2)] _ _ _
  refine gw_ld rfl rfl ?_
  refine z_b1 (fun c3 => ?_) (fun c3 => ?_)
  · have c3 : x2.toInt < 0 := c3
    refine gw_skip _ ?_
    refine z_C (m := 0) rfl rfl (fun x4 ex4 => ?_)
    refine z_ri ?_
    exact zW_Q F (K _ (by unfold rEf; rw [if_neg (by omega)]; omega))
  · have c3 : ¬ (x2.toInt < 0) := c3
    refine gw_ld rfl rfl ?_
    refine z_gs ?_
    refine z_alE (n := 3) (by rw [hE 8]; rfl) (by omega) (fun x5 ex5 => ?_)
    refine z_b2 (fun c6 => ?_) (fun c6 => ?_)
    · have c6 : x5.toInt ≤ x2.toInt := c6
      refine gw_skip _ ?_
      refine z_C (m := 0) rfl rfl (fun x7 ex7 => ?_)
      refine z_ri ?_
      exact zW_Q F (K _ (by unfold rEf; rw [if_neg (by omega)]; omega))
    · have c6 : ¬ (x5.toInt ≤ x2.toInt) := c6
      refine z_gs ?_
      refine gw_ld rfl rfl ?_
      refine z_iaE (n := 3) (hE 8) (by omega) ?_
      generalize ex8 : (tz_ar (8 + 1)).getD x2.toInt.toNat 0 = x8
      have rx8 := z_rng x8
      have ox8 := tz_RE (n := x2.toInt.toNat) (by omega)
      rw [ex8] at ox8
      refine z_go ?_
      refine gw_skip _ ?_
      refine z_ri ?_
      exact zW_Q F (K _ (by unfold rEf; rw [if_pos (by omega)]; rw [show y.toInt.toNat - 16 = x2.toInt.toNat by omega]; exact ox8))
set_option maxRecDepth 4000 in
set_option maxHeartbeats 20000000 in
theorem c_xb_L0 {E : Nat → Nat × (Nat → Int32)} {d : Nat} {Q : ez_Q} {h : ez_H}  (S : zSh h) (hE : zE E) (hC : aR (ez_I h 65) 19 0 1000) (K : ∀ x : Int32, x.toInt = (ez_I h 65 16).toInt * 2 + (ez_I h 65 17).toInt * 3 + (ez_I h 65 18).toInt * 7 → Q (.inl (some (.int x))) h) : ∀ N : Nat, (∀ (h2 : ez_H) (b : Int32) (y : Int32) , zW (fun _ _ => False) (fun _ => False) (fun _ => False) h h2 → (16 ≤ y.toInt ∧ y.toInt ≤ 19 ∧ b.toInt = (if 16 < y.toInt then (ez_I h 65 16).toInt * 2 else 0) + (if 17 < y.toInt then (ez_I h 65 17).toInt * 3 else 0) + (if 18 < y.toInt then (ez_I h 65 18).toInt * 7 else 0)) → (100 - y.toInt) < (N : Int) → pw E (d + 1) 97 5 [some (.ref 61), some (.int b), some (.int y)] [] h2 Q) := by
  intro N
  induction N with
  | zero => exact fun h2 b y  F hinv  hm => absurd hm (by have w_b := z_rng b; have w_y := z_rng y; omega)
  | succ N ih =>
    refine fun h2 b y  F hinv  hm => ?_
    · skip
      have w_b := z_rng b
      have w_y := z_rng y
      have S2 := zW_sh F S
      have hc6 := hC 16 (by decide)
      have hc7 := hC 17 (by decide)
      have hc8 := hC 18 (by decide)
      apply ez_Wp_in
      show ez_gw _ _ _ _ _ _ (cz_97) _ _ _ _ _
      refine gw_skip _ ?_
      refine gw_ld rfl rfl ?_
      refine z_C (m := 18) rfl rfl (fun x1 ex1 => ?_)
      refine z_b2 (fun c2 => ?_) (fun c2 => ?_)
      · have c2 : x1.toInt < y.toInt := c2
        refine gw_skip _ ?_
        refine gw_ld rfl rfl ?_
        refine z_ri ?_
        exact zW_Q F (K _ (by omega))
      · have c2 : ¬ (x1.toInt < y.toInt) := c2
        refine gw_ld rfl rfl ?_
        refine gw_ld rfl rfl ?_
        refine z_gR (q := 65) (zT S2 (by decide) rfl) (zRf S2 (by decide) (by decide) rfl) (by decide) ?_
        refine gw_ld rfl rfl ?_
        refine z_iaV (n := 19) (zT S2 (by decide) rfl) (zN S2 (by decide) rfl) (by omega) (zW_f F (fun c => c) (fun c => c)) ?_
        generalize ex3 : ez_I h 65 y.toInt.toNat = x3
        have rx3 := z_rng x3
        have yx3 := hC y.toInt.toNat (by omega)
        rw [ex3] at yx3
        refine gw_ld rfl rfl ?_
        refine z_cl rfl rfl rfl rfl rfl rfl rfl rfl rfl rfl rfl (trivial) ?_
        refine c_xbo S2 (y := y) hE (by omega) (fun x4 k5 => ?_)
        have rx4 := z_rng x4
        have hre := REf_v (y := y.toInt.toNat) (by omega)
        have hey : x3.toInt = (if y.toInt = 16 then (ez_I h 65 16).toInt else if y.toInt = 17 then (ez_I h 65 17).toInt else (ez_I h 65 18).toInt) := by
          rw [← ex3]
          rcases (by omega : y.toInt = 16 ∨ y.toInt = 17 ∨ y.toInt = 18) with q | q | q <;> rw [q] <;> rfl
        have hpr : x3.toInt * x4.toInt = (if y.toInt = 16 then (ez_I h 65 16).toInt * 2 else if y.toInt = 17 then (ez_I h 65 17).toInt * 3 else (ez_I h 65 18).toInt * 7) := by
          rw [hey, k5, hre]
          rcases (by omega : y.toInt = 16 ∨ y.toInt = 17 ∨ y.toInt = 18) with q | q | q <;> rw [q] <;> rfl
        refine z_mul (by omega) (fun x6 ex6 => ?_)
        refine z_add (by omega) (fun x7 ex7 => ?_)
        refine gw_st rfl rfl rfl ?_
        show ez_gw _ _ _ _ _ _ _ _ [some (.ref 61), some (.int x7), some (.int y)] _ _ _
        refine z_inc rfl (by rw [show (1 : Int32).toInt = 1 from rfl]; omega) (fun x8 ex8 => ?_)
        rw [show (1 : Int32).toInt = 1 from rfl] at ex8
        show ez_gw _ _ _ _ _ _ _ _ [some (.ref 61), some (.int x7), some (.int x8)] _ _ _
        refine z_go ?_
        exact ih h2 x7 x8 F (⟨by omega, by omega, by omega⟩)  (by omega)
set_option maxRecDepth 4000 in
set_option maxHeartbeats 20000000 in
theorem c_xb {E : Nat → Nat × (Nat → Int32)} {d : Nat} {Q : ez_Q} {h : ez_H}  (S : zSh h) (hE : zE E) (hC : aR (ez_I h 65) 19 0 1000) (K : ∀ x : Int32, x.toInt = (ez_I h 65 16).toInt * 2 + (ez_I h 65 17).toInt * 3 + (ez_I h 65 18).toInt * 7 → Q (.inl (some (.int x))) h) : pw E (d + 1) 97 0 [some (.ref 61), none, none] [] h Q := by
  have F := zW_refl (fun _ _ => False) (fun _ => False) (fun _ => False) h
  apply ez_Wp_in
  show ez_gw _ _ _ _ _ _ (cz_97) _ _ _ _ _
  refine gw_skip _ ?_
  refine z_C (m := 0) rfl rfl (fun x1 ex1 => ?_)
  refine gw_st rfl rfl rfl ?_
  show ez_gw _ _ _ _ _ _ _ _ [some (.ref 61), some (.int x1), none] _ _ _
  refine z_C (m := 16) rfl rfl (fun x2 ex2 => ?_)
  refine gw_st rfl rfl rfl ?_
  show ez_gw _ _ _ _ _ _ _ _ [some (.ref 61), some (.int x1), some (.int x2)] _ _ _
  exact ez_Wp_at ((c_xb_L0  S hE hC K (((100 - x2.toInt)).toNat + 1)) h x1 x2 F (⟨by omega, by omega, by omega⟩)  (by omega)) rfl
