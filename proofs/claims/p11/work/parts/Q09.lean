/-! PRINTED by wip/pack: the class: STORED -/
set_option maxRecDepth 4000 in
set_option maxHeartbeats 20000000 in
theorem c_wStored_L0 {E : Nat → Nat × (Nat → Int32)} {d : Nat} {Q : ez_Q} {h : ez_H} {b : Int32} (S : zSh h) {s : Nat × Nat} (hs : stC (ez_I h 51) (ez_I h 50 1).toInt (ez_I h 68 1).toInt (ez_I h 68 2).toInt s) (h7 : (ez_I h 68 2).toInt ≤ 7) (hz : 0 ≤ (ez_I h 2 1).toInt ∧ (ez_I h 2 1).toInt ≤ 6000) (hb : aR (ez_I h 3) (ez_I h 2 1).toInt.toNat 0 255) (hm : 0 ≤ (ez_I h 52 11).toInt ∧ 0 ≤ b.toInt ∧ b.toInt + (ez_I h 52 11).toInt ≤ (ez_I h 2 1).toInt) (hr : s.2 + 39 + 8 * (ez_I h 52 11).toInt.toNat ≤ 48800) (K : ∀ h2, zW (fun q k => q = 68 ∧ k = 1 ∨ q = 68 ∧ k = 2 ∨ q = 50 ∧ k = 1) (fun q => q = 51) (fun _ => False) h h2 → stC (ez_I h2 51) (ez_I h2 50 1).toInt (ez_I h2 68 1).toInt (ez_I h2 68 2).toInt (bS (tI (ez_I h 3)) b.toInt.toNat (wr (wr (s.1, (s.2 + 7) / 8 * 8) (ez_I h 52 11).toInt.toNat 16) (65535 - (ez_I h 52 11).toInt.toNat) 16) ((ez_I h 52 11).toInt.toNat)) → (ez_I h2 68 2).toInt ≤ 7 → Q (.inl none) h2) : ∀ N : Nat, (∀ (h2 : ez_H) (i : Int32) , zW (fun q k => q = 68 ∧ k = 1 ∨ q = 68 ∧ k = 2 ∨ q = 50 ∧ k = 1) (fun q => q = 51) (fun _ => False) h h2 → (b.toInt ≤ i.toInt ∧ i.toInt ≤ b.toInt + (ez_I h 52 11).toInt ∧ True ∧ (ez_I h2 68 2).toInt ≤ 7) → stC (ez_I h2 51) (ez_I h2 50 1).toInt (ez_I h2 68 1).toInt (ez_I h2 68 2).toInt (bS (tI (ez_I h 3)) b.toInt.toNat (wr (wr (s.1, (s.2 + 7) / 8 * 8) (ez_I h 52 11).toInt.toNat 16) (65535 - (ez_I h 52 11).toInt.toNat) 16) (i.toInt.toNat - b.toInt.toNat)) → (100000 - i.toInt) < (N : Int) → pw E (d + 3) 120 40 [some (.ref 52), some (.ref 2), some (.int b), some (.int i)] [] h2 Q) := by
  intro N
  induction N with
  | zero => exact fun h2 i  F hinv A_st hm => absurd hm (by have w_i := z_rng i; have gb := z_rng b; omega)
  | succ N ih =>
    refine fun h2 i  F hinv A_st hm => ?_
    · skip
      have w_i := z_rng i
      have gb := z_rng b
      have S2 := zW_sh F S
      apply ez_Wp_in
      show ez_gw _ _ _ _ _ _ (cz_120) _ _ _ _ _
      refine gw_skip _ ?_
      have r1 := z_rng (ez_I h2 68 1)
      have r2 := z_rng (ez_I h2 68 2)
      have r3 := z_rng (ez_I h2 50 1)
      refine gw_ld rfl rfl ?_
      refine gw_ld rfl rfl ?_
      refine gw_ld rfl rfl ?_
      have r4 := z_rng (ez_I h 52 11)
      refine z_gI2 (by decide) (zT S2 (by decide) rfl) (zW_f F (by decide) (by decide)) ?_
      refine z_add (by omega) (fun x5 ex5 => ?_)
      refine z_b2 (fun c6 => ?_) (fun c6 => ?_)
      · have c6 : x5.toInt ≤ i.toInt := c6
        refine gw_skip _ ?_
        refine z_rv ?_
        have b1 := A_st
        rw [show i.toInt.toNat - b.toInt.toNat = (ez_I h 52 11).toInt.toNat by omega] at b1
        exact K _ F b1 (by omega)
      · have c6 : ¬ (x5.toInt ≤ i.toInt) := c6
        refine gw_ld rfl rfl ?_
        refine gw_ld rfl rfl ?_
        refine z_cl rfl rfl rfl rfl rfl rfl rfl rfl rfl rfl rfl (zT S2 (by decide) rfl) ?_
        refine c_has (p := 2) (i := i) S2 (by decide) (fun x7 k8 k9 k10 => ?_)
        rw [show ez_I h2 2 1 = ez_I h 2 1 from zW_f F (by decide) (by decide)] at k9 k10
        have rx7 := z_rng x7
        refine z_b1 (fun c11 => ?_) (fun c11 => ?_)
        · have c11 : x7.toInt = 0 := c11
          refine gw_skip _ ?_
          refine z_rv ?_
          have b1 := A_st
          rw [show i.toInt.toNat - b.toInt.toNat = (ez_I h 52 11).toInt.toNat by omega] at b1
          exact K _ F b1 (by omega)
        · have c11 : ¬ (x7.toInt = 0) := c11
          refine gw_ld rfl rfl ?_
          refine z_gR (q := 68) (zT S2 (by decide) rfl) (zRf S2 (by decide) (by decide) rfl) (by decide) ?_
          refine gw_ld rfl rfl ?_
          refine z_gR (q := 3) (zT S2 (by decide) rfl) (zRf S2 (by decide) (by decide) rfl) (by decide) ?_
          refine gw_ld rfl rfl ?_
          refine z_iaV (n := 6100) (zT S2 (by decide) rfl) (zN S2 (by decide) rfl) (by omega) (zW_f F (by decide) (by omega)) ?_
          generalize ex12 : ez_I h 3 i.toInt.toNat = x12
          have rx12 := z_rng x12
          have yx12 := hb i.toInt.toNat (by omega)
          rw [ex12] at yx12
          refine z_C (m := 8) rfl rfl (fun x13 ex13 => ?_)
          refine z_cl rfl rfl rfl rfl rfl rfl rfl rfl rfl rfl rfl (zT S2 (by decide) rfl) ?_
          have hpw : (2 : Int) ^ x13.toInt.toNat = 256 := by rw [show x13.toInt.toNat = 8 by omega]; rfl
          have hb2 := bS_2 (tI (ez_I h 3)) b.toInt.toNat (wr (wr (s.1, (s.2 + 7) / 8 * 8) (ez_I h 52 11).toInt.toNat 16) (65535 - (ez_I h 52 11).toInt.toNat) 16) (i.toInt.toNat - b.toInt.toNat)
          have hb3 : ((wr (wr (s.1, (s.2 + 7) / 8 * 8) (ez_I h 52 11).toInt.toNat 16) (65535 - (ez_I h 52 11).toInt.toNat) 16)).2 = (s.2 + 7) / 8 * 8 + 16 + 16 := rfl
          refine c_put (s := (bS (tI (ez_I h 3)) b.toInt.toNat (wr (wr (s.1, (s.2 + 7) / 8 * 8) (ez_I h 52 11).toInt.toNat 16) (65535 - (ez_I h 52 11).toInt.toNat) 16) (i.toInt.toNat - b.toInt.toNat))) (v := x12) (n := x13) S2 A_st (by omega) (by omega) (by omega) (by omega) (fun h14 F15 k16 k17 => ?_)
          have S18 := zW_sh F15 S2
          have F19 := zW_tr F (zW_mono F15 (fun q k hk => by first | omega | exact False.elim hk) (fun q hk => by first | omega | exact False.elim hk) (fun q hk => by first | omega | exact False.elim hk))
          have r20 := z_rng (ez_I h14 68 1)
          have r21 := z_rng (ez_I h14 68 2)
          have r22 := z_rng (ez_I h14 50 1)
          refine z_inc rfl (by rw [show (1 : Int32).toInt = 1 from rfl]; omega) (fun x23 ex23 => ?_)
          rw [show (1 : Int32).toInt = 1 from rfl] at ex23
          show ez_gw _ _ _ _ _ _ _ _ [some (.ref 52), some (.ref 2), some (.int b), some (.int x23)] _ _ _
          refine z_go ?_
          exact ih h14 x23 F19 (⟨by omega, by omega, trivial, by omega⟩) ((by rw [show x23.toInt.toNat - b.toInt.toNat = (i.toInt.toNat - b.toInt.toNat) + 1 by omega]; have e : ((tI (ez_I h 3)) (b.toInt.toNat + (i.toInt.toNat - b.toInt.toNat))).toNat = x12.toInt.toNat := (by rw [show b.toInt.toNat + (i.toInt.toNat - b.toInt.toNat) = i.toInt.toNat by omega]; show (ez_I h 3 i.toInt.toNat).toInt.toNat = _; rw [ex12]); have b1 := k16; rw [show x13.toInt.toNat = 8 by omega, ← e] at b1; exact b1)) (by omega)
set_option maxRecDepth 4000 in
set_option maxHeartbeats 20000000 in
theorem c_wStored {E : Nat → Nat × (Nat → Int32)} {d : Nat} {Q : ez_Q} {h : ez_H} {b : Int32} (S : zSh h) {s : Nat × Nat} (hs : stC (ez_I h 51) (ez_I h 50 1).toInt (ez_I h 68 1).toInt (ez_I h 68 2).toInt s) (h7 : (ez_I h 68 2).toInt ≤ 7) (hz : 0 ≤ (ez_I h 2 1).toInt ∧ (ez_I h 2 1).toInt ≤ 6000) (hb : aR (ez_I h 3) (ez_I h 2 1).toInt.toNat 0 255) (hm : 0 ≤ (ez_I h 52 11).toInt ∧ 0 ≤ b.toInt ∧ b.toInt + (ez_I h 52 11).toInt ≤ (ez_I h 2 1).toInt) (hr : s.2 + 39 + 8 * (ez_I h 52 11).toInt.toNat ≤ 48800) (K : ∀ h2, zW (fun q k => q = 68 ∧ k = 1 ∨ q = 68 ∧ k = 2 ∨ q = 50 ∧ k = 1) (fun q => q = 51) (fun _ => False) h h2 → stC (ez_I h2 51) (ez_I h2 50 1).toInt (ez_I h2 68 1).toInt (ez_I h2 68 2).toInt (bS (tI (ez_I h 3)) b.toInt.toNat (wr (wr (s.1, (s.2 + 7) / 8 * 8) (ez_I h 52 11).toInt.toNat 16) (65535 - (ez_I h 52 11).toInt.toNat) 16) ((ez_I h 52 11).toInt.toNat)) → (ez_I h2 68 2).toInt ≤ 7 → Q (.inl none) h2) : pw E (d + 3) 120 0 [some (.ref 52), some (.ref 2), some (.int b), none] [] h Q := by
  have gb := z_rng b
  have F := zW_refl (fun q k => q = 68 ∧ k = 1 ∨ q = 68 ∧ k = 2 ∨ q = 50 ∧ k = 1) (fun q => q = 51) (fun _ => False) h
  apply ez_Wp_in
  show ez_gw _ _ _ _ _ _ (cz_120) _ _ _ _ _
  refine gw_skip _ ?_
  have r1 := z_rng (ez_I h 68 1)
  have r2 := z_rng (ez_I h 68 2)
  have r3 := z_rng (ez_I h 50 1)
  refine gw_ld rfl rfl ?_
  refine z_gR (q := 68) (zT S (by decide) rfl) (zRf S (by decide) (by decide) rfl) (by decide) ?_
  refine z_cl rfl rfl rfl rfl rfl rfl rfl rfl rfl rfl rfl (zT S (by decide) rfl) ?_
  refine c_fillB (s := s) S hs h7 (by omega) (fun h4 F5 k6 k7 => ?_)
  have S8 := zW_sh F5 S
  have F9 := zW_tr F (zW_mono F5 (fun q k hk => by first | omega | exact False.elim hk) (fun q hk => by first | omega | exact False.elim hk) (fun q hk => by first | omega | exact False.elim hk))
  have r10 := z_rng (ez_I h4 68 1)
  have r11 := z_rng (ez_I h4 68 2)
  have r12 := z_rng (ez_I h4 50 1)
  refine gw_ld rfl rfl ?_
  refine z_gR (q := 68) (zT S8 (by decide) rfl) (zRf S8 (by decide) (by decide) rfl) (by decide) ?_
  refine gw_ld rfl rfl ?_
  have r13 := z_rng (ez_I h 52 11)
  refine z_gI2 (by decide) (zT S8 (by decide) rfl) (zW_f F9 (by decide) (by decide)) ?_
  refine z_C (m := 16) rfl rfl (fun x14 ex14 => ?_)
  refine z_cl rfl rfl rfl rfl rfl rfl rfl rfl rfl rfl rfl (zT S8 (by decide) rfl) ?_
  have hpw : (2 : Int) ^ x14.toInt.toNat = 65536 := by rw [show x14.toInt.toNat = 16 by omega]; rfl
  have hSl : ((s.1, (s.2 + 7) / 8 * 8) : Nat × Nat).2 = (s.2 + 7) / 8 * 8 := rfl
  refine c_put (s := (s.1, (s.2 + 7) / 8 * 8)) (v := (ez_I h 52 11)) (n := x14) S8 k6 (by omega) (by omega) (by omega) (by omega) (fun h15 F16 k17 k18 => ?_)
  have S19 := zW_sh F16 S8
  have F20 := zW_tr F9 (zW_mono F16 (fun q k hk => by first | omega | exact False.elim hk) (fun q hk => by first | omega | exact False.elim hk) (fun q hk => by first | omega | exact False.elim hk))
  have r21 := z_rng (ez_I h15 68 1)
  have r22 := z_rng (ez_I h15 68 2)
  have r23 := z_rng (ez_I h15 50 1)
  refine gw_ld rfl rfl ?_
  refine z_gR (q := 68) (zT S19 (by decide) rfl) (zRf S19 (by decide) (by decide) rfl) (by decide) ?_
  refine gw_ld rfl rfl ?_
  refine z_gI2 (by decide) (zT S19 (by decide) rfl) (zW_f F20 (by decide) (by decide)) ?_
  refine z_C (m := -1) rfl rfl (fun x24 ex24 => ?_)
  refine z_2 rfl (fun x25 ex25 => ?_)
  have rx25 := z_rng x25
  have vx25 := n_not (by omega) ex25
  refine z_C (m := 65535) rfl rfl (fun x26 ex26 => ?_)
  refine z_and (fun x27 ex27 ux27 wx27 => ?_)
  have rx27 := z_rng x27
  replace ux27 := ux27 (by omega)
  clear wx27
  have vx27 := n_mask (k := 16) (by decide) (by omega) ex27
  rw [show (2 : Int) ^ 16 = 65536 from rfl] at vx27
  refine z_C (m := 16) rfl rfl (fun x28 ex28 => ?_)
  refine z_cl rfl rfl rfl rfl rfl rfl rfl rfl rfl rfl rfl (zT S19 (by decide) rfl) ?_
  have hpw : (2 : Int) ^ x28.toInt.toNat = 65536 := by rw [show x28.toInt.toNat = 16 by omega]; rfl
  have hSl2 : ((wr (s.1, (s.2 + 7) / 8 * 8) (ez_I h 52 11).toInt.toNat x14.toInt.toNat)).2 = (s.2 + 7) / 8 * 8 + x14.toInt.toNat := rfl
  have hq33 : ((wr (s.1, (s.2 + 7) / 8 * 8) (ez_I h 52 11).toInt.toNat x14.toInt.toNat)).2 = ((s.1, (s.2 + 7) / 8 * 8)).2 + x14.toInt.toNat := rfl
  refine c_put (s := (wr (s.1, (s.2 + 7) / 8 * 8) (ez_I h 52 11).toInt.toNat x14.toInt.toNat)) (v := x27) (n := x28) S19 k17 (by omega) (by omega) (by omega) (by omega) (fun h29 F30 k31 k32 => ?_)
  have S34 := zW_sh F30 S19
  have F35 := zW_tr F20 (zW_mono F30 (fun q k hk => by first | omega | exact False.elim hk) (fun q hk => by first | omega | exact False.elim hk) (fun q hk => by first | omega | exact False.elim hk))
  have r36 := z_rng (ez_I h29 68 1)
  have r37 := z_rng (ez_I h29 68 2)
  have r38 := z_rng (ez_I h29 50 1)
  have hS2 : (wr (wr (s.1, (s.2 + 7) / 8 * 8) (ez_I h 52 11).toInt.toNat x14.toInt.toNat) x27.toInt.toNat x28.toInt.toNat) = (wr (wr (s.1, (s.2 + 7) / 8 * 8) (ez_I h 52 11).toInt.toNat 16) (65535 - (ez_I h 52 11).toInt.toNat) 16) := by rw [show x27.toInt.toNat = 65535 - (ez_I h 52 11).toInt.toNat by omega, show x28.toInt.toNat = 16 by omega, show x14.toInt.toNat = 16 by omega]
  rw [hS2] at k31
  refine gw_ld rfl rfl ?_
  refine gw_st rfl rfl rfl ?_
  show ez_gw _ _ _ _ _ _ _ _ [some (.ref 52), some (.ref 2), some (.int b), some (.int b)] _ _ _
  exact ez_Wp_at ((c_wStored_L0 (b := b) S hs h7 hz hb hm hr K (((100000 - b.toInt)).toNat + 1)) h29 b F35 (⟨by omega, by omega, trivial, by omega⟩) ((by rw [show b.toInt.toNat - b.toInt.toNat = 0 by omega]; exact k31)) (by omega)) rfl
