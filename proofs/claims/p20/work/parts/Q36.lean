/-! PRINTED by wip/pack: the model reads: a stored block, the parts of a block -/
theorem x60_0 : ¬ (71 = 76) := by omega
theorem x60_1 : ¬ (71 = 71 ∧ 6 = 59 ∨ 71 = 71 ∧ 6 = 61 ∨ 71 = 71 ∧ 6 = 60) := by omega
theorem x60_2 : ¬ (72 = 76) := by omega
theorem x60_3 : ∀ k : Nat, ¬ (72 = 71 ∧ k = 59 ∨ 72 = 71 ∧ k = 61 ∨ 72 = 71 ∧ k = 60) := fun k c => by omega
theorem x60_4 : ∀ q k : Nat, (q = 71 ∧ k = 59 ∨ q = 71 ∧ k = 61) → (q = 71 ∧ k = 59 ∨ q = 71 ∧ k = 61 ∨ q = 71 ∧ k = 60) := fun q k hk => hk.elim (fun g => (.inl g)) (fun hk => (.inr (.inl hk)))
theorem x60_5 : ∀ q : Nat, (False) → (q = 76) := fun q hk => hk.elim
theorem x60_6 : ∀ q : Nat, (False) → (False) := fun q hk => hk.elim
theorem x60_7 : ∀ k : Nat, ¬ (76 = 71 ∧ k = 59 ∨ 76 = 71 ∧ k = 61) := fun k c => by omega
theorem x60_8 : ∀ q k : Nat, (q = 71 ∧ k = 60 ∨ q = 71 ∧ k = 61) → (q = 71 ∧ k = 59 ∨ q = 71 ∧ k = 61 ∨ q = 71 ∧ k = 60) := fun q k hk => hk.elim (fun g => (.inr (.inr g))) (fun hk => (.inr (.inl hk)))
theorem x60_9 : ∀ q : Nat, (q = 76) → (q = 76) := fun q hk => hk
set_option maxRecDepth 4000 in
set_option maxHeartbeats 2000000 in
theorem d_stored_L1 {E : Nat → Nat × (Nat → Int32)} {d : Nat} {Q : ez_Q} {h : ez_H} {o : Nat → Int} (S : zSh h) (hz : 0 ≤ (ez_I h 71 6).toInt ∧ (ez_I h 71 6).toInt ≤ 6000) (hp : 0 ≤ (ez_I h 71 59).toInt ∧ (ez_I h 71 59).toInt ≤ 8 * (ez_I h 71 6).toInt) (hf : (ez_I h 71 61).toInt = 0) (hg : 0 ≤ (ez_I h 71 60).toInt ∧ (ez_I h 71 60).toInt ≤ 6000) (ho : oM (ez_I h 76) o (ez_I h 71 60).toInt.toNat) (K : ∀ h2, zW (fun q k => q = 71 ∧ k = 59 ∨ q = 71 ∧ k = 61 ∨ q = 71 ∧ k = 60) (fun q => q = 76) (fun _ => False) h h2 → (((ez_I h2 71 61).toInt = 0 ∧ ∃ (q : Nat) (o2 : Nat → Int) (m2 : Nat), stS (tB (ez_I h 72)) (ez_I h 71 6).toInt.toNat (ez_I h 71 59).toInt.toNat o (ez_I h 71 60).toInt.toNat = some (q, o2, m2) ∧ (ez_I h2 71 59).toInt = q ∧ (ez_I h2 71 60).toInt = m2 ∧ oM (ez_I h2 76) o2 m2) ∨ (1 ≤ (ez_I h2 71 61).toInt ∧ stS (tB (ez_I h 72)) (ez_I h 71 6).toInt.toNat (ez_I h 71 59).toInt.toNat o (ez_I h 71 60).toInt.toNat = none)) → (0 ≤ (ez_I h2 71 59).toInt ∧ (ez_I h2 71 59).toInt ≤ 8 * (ez_I h 71 6).toInt) → (0 ≤ (ez_I h2 71 60).toInt ∧ (ez_I h2 71 60).toInt ≤ 6000) → Q (.inl none) h2) : ∀ N : Nat, (∀ (h2 : ez_H) (sz : Int32) (tu : Int32) (i : Int32) (l4 : Option Value) (p2 : Nat) (o2 : Nat → Int) (m2 : Nat) (fl : Nat), zW (fun q k => q = 71 ∧ k = 59 ∨ q = 71 ∧ k = 61 ∨ q = 71 ∧ k = 60) (fun q => q = 76) (fun _ => False) h h2 → (0 ≤ i.toInt ∧ i.toInt ≤ 65536 ∧ (ez_I h2 71 61).toInt = fl ∧ 0 ≤ (ez_I h2 71 59).toInt ∧ (ez_I h2 71 59).toInt ≤ 8 * (ez_I h 71 6).toInt ∧ 0 ≤ (ez_I h2 71 60).toInt ∧ (ez_I h2 71 60).toInt ≤ 6000) → (imP fl (i.toInt ≤ sz.toInt ∧ sz.toInt ≤ 65535 ∧ (ez_I h2 71 59).toInt = p2 ∧ (ez_I h2 71 60).toInt = m2)) → (spP fl (stS (tB (ez_I h 72)) (ez_I h 71 6).toInt.toNat (ez_I h 71 59).toInt.toNat o (ez_I h 71 60).toInt.toNat = cpS (tB (ez_I h 72)) (ez_I h 71 6).toInt.toNat (sz.toInt.toNat - i.toInt.toNat) p2 o2 m2) (stS (tB (ez_I h 72)) (ez_I h 71 6).toInt.toNat (ez_I h 71 59).toInt.toNat o (ez_I h 71 60).toInt.toNat = none)) → (imP fl (oM (ez_I h2 76) o2 m2)) → (100000 - i.toInt) < (N : Int) → pw E (d + 2) 57 60 [some (.ref 71), some (.int sz), some (.int tu), some (.int i), l4] [] h2 Q) := by
  intro N
  induction N with
  | zero => exact fun h2 sz tu i l4 p2 o2 m2 fl F hinv A_im A_sp A_or hm => absurd hm (by have w_sz := z_rng sz; have w_tu := z_rng tu; have w_i := z_rng i; omega)
  | succ N ih =>
    refine fun h2 sz tu i l4 p2 o2 m2 fl F hinv A_im A_sp A_or hm => ?_
    · skip
      have w_sz := z_rng sz
      have w_tu := z_rng tu
      have w_i := z_rng i
      have S2 := zW_sh F S
      apply ez_Wp_in
      show ez_gw _ _ _ _ _ _ (cz_57) _ _ _ _ _
      refine gw_skip _ ?_
      have r1 := z_rng (ez_I h2 71 59)
      have r2 := z_rng (ez_I h2 71 61)
      have r3 := z_rng (ez_I h2 71 60)
      refine gw_ld rfl rfl ?_
      refine gw_ld rfl rfl ?_
      refine z_b2 (fun c4 => ?_) (fun c4 => ?_)
      · have c4 : sz.toInt ≤ i.toInt := c4
        refine gw_skip _ ?_
        refine z_rv ?_
        by_cases hq : fl = 0
        · have hI := A_im hq
          exact K _ F (.inl ⟨by omega, p2, o2, m2, (A_sp.1 hq).trans (by rw [show sz.toInt.toNat - i.toInt.toNat = 0 by omega]; rfl), by omega, by omega, A_or hq⟩) (by omega) (by omega)
        · exact K _ F (.inr ⟨by omega, A_sp.2 hq⟩) (by omega) (by omega)
      · have c4 : ¬ (sz.toInt ≤ i.toInt) := c4
        refine gw_ld rfl rfl ?_
        refine z_gI2 (by decide) (zT S2 (by decide) rfl) (rfl) ?_
        refine z_b1 (fun c5 => ?_) (fun c5 => ?_)
        · have c5 : ((ez_I h2 71 61)).toInt ≠ 0 := c5
          refine gw_skip _ ?_
          refine z_rv ?_
          by_cases hq : fl = 0
          · have hI := A_im hq
            exact K _ F (.inl ⟨by omega, p2, o2, m2, (A_sp.1 hq).trans (by rw [show sz.toInt.toNat - i.toInt.toNat = 0 by omega]; rfl), by omega, by omega, A_or hq⟩) (by omega) (by omega)
          · exact K _ F (.inr ⟨by omega, A_sp.2 hq⟩) (by omega) (by omega)
        · have c5 : ¬ (((ez_I h2 71 61)).toInt ≠ 0) := c5
          have hI := A_im (by omega)
          have A_o2 := A_or (by omega)
          refine gw_ld rfl rfl ?_
          refine z_C (m := 8) rfl rfl (fun x6 ex6 => ?_)
          refine z_cl rfl rfl rfl rfl rfl rfl rfl rfl rfl rfl rfl (zT S2 (by decide) rfl) ?_
          refine d_tb (n := x6) S2 (by rw [(show ez_I h2 71 6 = ez_I h 71 6 from zW_f F x60_0 x60_1)]; exact hz) (by rw [(show ez_I h2 71 6 = ez_I h 71 6 from zW_f F x60_0 x60_1)]; omega) (by omega) (by omega) (fun h7 x9 F8 k10 k11 k12 => ?_)
          have rx9 := z_rng x9
          rw [(show ez_I h2 71 6 = ez_I h 71 6 from zW_f F x60_0 x60_1), (show ez_I h2 72 = ez_I h 72 from zW_fn F 72 x60_2 x60_3), show x6.toInt.toNat = 8 by omega, show (ez_I h2 71 59).toInt.toNat = p2 by omega] at k10
          rw [(show ez_I h2 71 6 = ez_I h 71 6 from zW_f F x60_0 x60_1)] at k11
          have vlx9 := vB_lt (tB (ez_I h 72)) (p2) (8)
          have vpx9 := Nat.pow_le_pow_right (n := 2) (by decide) (show 8 ≤ 16 by omega)
          have S16 := zW_sh F8 S2
          have F17 := zW_tr F (zW_mono F8 (x60_4) (x60_5) (x60_6))
          have r18 := z_rng (ez_I h7 71 59)
          have r19 := z_rng (ez_I h7 71 61)
          have f20 : ez_I h7 71 60 = (ez_I h2 71 60) := (zW_f F8 (fun c => c) (by decide)).trans (rfl)
          have A21 : oM (ez_I h7 76) o2 m2 := by rw [zW_fn F8 76 (fun c => c) (x60_7)]; exact A_o2
          by_cases hok13 : (ez_I h2 71 59).toInt + x6.toInt ≤ 8 * (ez_I h 71 6).toInt
          · have ko14 := k10 (by omega) (by omega)
            clear k10 k11 k12
            refine gw_st rfl rfl rfl ?_
            show ez_gw _ _ _ _ _ _ _ _ [some (.ref 71), some (.int sz), some (.int tu), some (.int i), some (.int x9)] _ _ _
            refine gw_ld rfl rfl ?_
            refine z_gI2 (by decide) (zT S16 (by decide) rfl) (rfl) ?_
            refine z_b1 (fun c22 => ?_) (fun c22 => ?_)
            · have c22 : ((ez_I h7 71 61)).toInt ≠ 0 := c22
              exfalso; omega
            · have c22 : ¬ (((ez_I h7 71 61)).toInt ≠ 0) := c22
              refine gw_ld rfl rfl ?_
              refine gw_ld rfl rfl ?_
              have t23 := congrArg Int32.toInt (f20)
              refine z_cl rfl rfl rfl rfl rfl rfl rfl rfl rfl rfl rfl (zT S16 (by decide) rfl) ?_
              refine d_give2 (v := x9) S16 (by omega) (fun h24 F25 k26 k27 => ?_)
              have S31 := zW_sh F25 S16
              have F32 := zW_tr F17 (zW_mono F25 (x60_8) (x60_9) (x60_6))
              have f33 : ez_I h24 71 59 = (ez_I h7 71 59) := (zW_f F25 (by decide) (by decide)).trans (rfl)
              have r34 := z_rng (ez_I h24 71 61)
              have r35 := z_rng (ez_I h24 71 60)
              by_cases hg28 : (ez_I h7 71 60).toInt = 6000
              · have kk29 := k26 hg28
                have kk9 := kk29.1 (by omega)
                have kkg := kk29.2.2.1
                clear kk29 k26 k27
                refine z_inc rfl (by rw [show (1 : Int32).toInt = 1 from rfl]; omega) (fun x36 ex36 => ?_)
                rw [show (1 : Int32).toInt = 1 from rfl] at ex36
                show ez_gw _ _ _ _ _ _ _ _ [some (.ref 71), some (.int sz), some (.int tu), some (.int x36), some (.int x9)] _ _ _
                refine z_go ?_
                have t37 := congrArg Int32.toInt (f33)
                exact ih h24 sz tu x36 (some (.int x9)) (p2 + 8) (putT o2 m2 (vB (tB (ez_I h 72)) p2 8 : Nat)) (m2 + 1) (ez_I h24 71 61).toInt.toNat F32 (by omega) ((fun q => by exfalso; omega)) (⟨fun q => by exfalso; omega, fun q => (A_sp.1 (by omega)).trans (cpS_n (by omega) (.inr (by omega)))⟩) ((fun q => by exfalso; omega)) (by omega)
              · have kk29 := k27 (by omega)
                obtain ⟨kA, kB, kC, kD⟩ := kk29
                rw [show (ez_I h7 71 60).toInt.toNat = m2 by omega] at kC kD
                have A30 : oM (ez_I h24 76) (putT o2 m2 (vB (tB (ez_I h 72)) p2 8 : Nat)) (m2 + 1) := oM_put A21 (by rw [kC]; have := ko14.1; omega) kD rfl
                clear k26 k27
                refine z_inc rfl (by rw [show (1 : Int32).toInt = 1 from rfl]; omega) (fun x38 ex38 => ?_)
                rw [show (1 : Int32).toInt = 1 from rfl] at ex38
                show ez_gw _ _ _ _ _ _ _ _ [some (.ref 71), some (.int sz), some (.int tu), some (.int x38), some (.int x9)] _ _ _
                refine z_go ?_
                have t39 := congrArg Int32.toInt (f33)
                exact ih h24 sz tu x38 (some (.int x9)) (p2 + 8) (putT o2 m2 (vB (tB (ez_I h 72)) p2 8 : Nat)) (m2 + 1) (ez_I h24 71 61).toInt.toNat F32 (by omega) ((fun q => by omega)) (⟨fun q => (A_sp.1 (by omega)).trans (cpS_y (by omega) (by omega) (by omega)), fun q => by exfalso; omega⟩) ((fun _ => A30)) (by omega)
          · have kf15 := k11 (by omega) (by omega)
            clear k10 k11 k12
            refine gw_st rfl rfl rfl ?_
            show ez_gw _ _ _ _ _ _ _ _ [some (.ref 71), some (.int sz), some (.int tu), some (.int i), some (.int x9)] _ _ _
            refine gw_ld rfl rfl ?_
            refine z_gI2 (by decide) (zT S16 (by decide) rfl) (rfl) ?_
            refine z_b1 (fun c40 => ?_) (fun c40 => ?_)
            · have c40 : ((ez_I h7 71 61)).toInt ≠ 0 := c40
              refine gw_skip _ ?_
              refine z_inc rfl (by rw [show (1 : Int32).toInt = 1 from rfl]; omega) (fun x41 ex41 => ?_)
              rw [show (1 : Int32).toInt = 1 from rfl] at ex41
              show ez_gw _ _ _ _ _ _ _ _ [some (.ref 71), some (.int sz), some (.int tu), some (.int x41), some (.int x9)] _ _ _
              refine z_go ?_
              have t42 := congrArg Int32.toInt (f20)
              exact ih h7 sz tu x41 (some (.int x9)) (p2 + 8) (putT o2 m2 (vB (tB (ez_I h 72)) p2 8 : Nat)) (m2 + 1) (ez_I h7 71 61).toInt.toNat F17 (by omega) ((fun q => by exfalso; omega)) (⟨fun q => by exfalso; omega, fun q => (A_sp.1 (by omega)).trans (cpS_n (by omega) (.inl (by omega)))⟩) ((fun q => by exfalso; omega)) (by omega)
            · have c40 : ¬ (((ez_I h7 71 61)).toInt ≠ 0) := c40
              exfalso; omega
theorem x60_10 : ∀ q k : Nat, (q = 71 ∧ k = 61) → (q = 71 ∧ k = 59 ∨ q = 71 ∧ k = 61 ∨ q = 71 ∧ k = 60) := fun q k hk => (.inr (.inl hk))
theorem x60_11 : ∀ k : Nat, ¬ (76 = 71 ∧ k = 61) := fun k c => by omega
set_option maxRecDepth 4000 in
set_option maxHeartbeats 2000000 in
theorem d_stored_L0 {E : Nat → Nat × (Nat → Int32)} {d : Nat} {Q : ez_Q} {h : ez_H} {o : Nat → Int} (S : zSh h) (hz : 0 ≤ (ez_I h 71 6).toInt ∧ (ez_I h 71 6).toInt ≤ 6000) (hp : 0 ≤ (ez_I h 71 59).toInt ∧ (ez_I h 71 59).toInt ≤ 8 * (ez_I h 71 6).toInt) (hf : (ez_I h 71 61).toInt = 0) (hg : 0 ≤ (ez_I h 71 60).toInt ∧ (ez_I h 71 60).toInt ≤ 6000) (ho : oM (ez_I h 76) o (ez_I h 71 60).toInt.toNat) (K : ∀ h2, zW (fun q k => q = 71 ∧ k = 59 ∨ q = 71 ∧ k = 61 ∨ q = 71 ∧ k = 60) (fun q => q = 76) (fun _ => False) h h2 → (((ez_I h2 71 61).toInt = 0 ∧ ∃ (q : Nat) (o2 : Nat → Int) (m2 : Nat), stS (tB (ez_I h 72)) (ez_I h 71 6).toInt.toNat (ez_I h 71 59).toInt.toNat o (ez_I h 71 60).toInt.toNat = some (q, o2, m2) ∧ (ez_I h2 71 59).toInt = q ∧ (ez_I h2 71 60).toInt = m2 ∧ oM (ez_I h2 76) o2 m2) ∨ (1 ≤ (ez_I h2 71 61).toInt ∧ stS (tB (ez_I h 72)) (ez_I h 71 6).toInt.toNat (ez_I h 71 59).toInt.toNat o (ez_I h 71 60).toInt.toNat = none)) → (0 ≤ (ez_I h2 71 59).toInt ∧ (ez_I h2 71 59).toInt ≤ 8 * (ez_I h 71 6).toInt) → (0 ≤ (ez_I h2 71 60).toInt ∧ (ez_I h2 71 60).toInt ≤ 6000) → Q (.inl none) h2) : ∀ N : Nat, (∀ (h2 : ez_H) (l1 : Option Value) (l2 : Option Value) (l3 : Option Value) (l4 : Option Value) , zW (fun q k => q = 71 ∧ k = 59 ∨ q = 71 ∧ k = 61 ∨ q = 71 ∧ k = 60) (fun q => q = 76) (fun _ => False) h h2 → ((ez_I h 71 59).toInt ≤ (ez_I h2 71 59).toInt ∧ (ez_I h2 71 59).toInt ≤ ((ez_I h 71 59).toInt + 7) / 8 * 8 ∧ (ez_I h2 71 61).toInt = 0 ∧ (ez_I h2 71 60).toInt = (ez_I h 71 60).toInt) → (oM (ez_I h2 76) o (ez_I h 71 60).toInt.toNat) → (100000 - (ez_I h2 71 59).toInt) < (N : Int) → pw E (d + 2) 57 0 [some (.ref 71), l1, l2, l3, l4] [] h2 Q) := by
  intro N
  induction N with
  | zero => exact fun h2 l1 l2 l3 l4  F hinv A_or hm => absurd hm (by omega)
  | succ N ih =>
    refine fun h2 l1 l2 l3 l4  F hinv A_or hm => ?_
    · skip
      have S2 := zW_sh F S
      apply ez_Wp_in
      show ez_gw _ _ _ _ _ _ (cz_57) _ _ _ _ _
      refine gw_skip _ ?_
      have r1 := z_rng (ez_I h2 71 59)
      have r2 := z_rng (ez_I h2 71 61)
      have r3 := z_rng (ez_I h2 71 60)
      refine gw_ld rfl rfl ?_
      refine z_gI2 (by decide) (zT S2 (by decide) rfl) (rfl) ?_
      refine z_C (m := 8) rfl rfl (fun x4 ex4 => ?_)
      refine z_rmP (c := 8) ex4 (by decide) (by omega) (fun x5 ex5 => ?_)
      refine z_b1 (fun c6 => ?_) (fun c6 => ?_)
      · have c6 : x5.toInt = 0 := c6
        refine gw_skip _ ?_
        refine gw_ld rfl rfl ?_
        refine z_C (m := 16) rfl rfl (fun x7 ex7 => ?_)
        refine z_cl rfl rfl rfl rfl rfl rfl rfl rfl rfl rfl rfl (zT S2 (by decide) rfl) ?_
        refine d_tb (n := x7) S2 (by rw [(show ez_I h2 71 6 = ez_I h 71 6 from zW_f F x60_0 x60_1)]; exact hz) (by rw [(show ez_I h2 71 6 = ez_I h 71 6 from zW_f F x60_0 x60_1)]; omega) (by omega) (by omega) (fun h8 x10 F9 k11 k12 k13 => ?_)
        have rx10 := z_rng x10
        rw [(show ez_I h2 71 6 = ez_I h 71 6 from zW_f F x60_0 x60_1), (show ez_I h2 72 = ez_I h 72 from zW_fn F 72 x60_2 x60_3), show x7.toInt.toNat = 16 by omega, show (ez_I h2 71 59).toInt.toNat = (((ez_I h 71 59).toInt.toNat + 7) / 8 * 8) by omega] at k11
        rw [(show ez_I h2 71 6 = ez_I h 71 6 from zW_f F x60_0 x60_1)] at k12
        have vlx10 := vB_lt (tB (ez_I h 72)) ((((ez_I h 71 59).toInt.toNat + 7) / 8 * 8)) (16)
        have vpx10 := Nat.pow_le_pow_right (n := 2) (by decide) (show 16 ≤ 16 by omega)
        have S17 := zW_sh F9 S2
        have F18 := zW_tr F (zW_mono F9 (x60_4) (x60_5) (x60_6))
        have r19 := z_rng (ez_I h8 71 59)
        have r20 := z_rng (ez_I h8 71 61)
        have f21 : ez_I h8 71 60 = (ez_I h2 71 60) := (zW_f F9 (fun c => c) (by decide)).trans (rfl)
        have A22 : oM (ez_I h8 76) o (ez_I h 71 60).toInt.toNat := by rw [zW_fn F9 76 (fun c => c) (x60_7)]; exact A_or
        by_cases hok14 : (ez_I h2 71 59).toInt + x7.toInt ≤ 8 * (ez_I h 71 6).toInt
        · have ko15 := k11 (by omega) (by omega)
          clear k11 k12 k13
          refine gw_st rfl rfl rfl ?_
          show ez_gw _ _ _ _ _ _ _ _ [some (.ref 71), some (.int x10), l2, l3, l4] _ _ _
          refine gw_ld rfl rfl ?_
          refine z_C (m := 16) rfl rfl (fun x23 ex23 => ?_)
          have t24 := congrArg Int32.toInt (f21)
          refine z_cl rfl rfl rfl rfl rfl rfl rfl rfl rfl rfl rfl (zT S17 (by decide) rfl) ?_
          refine d_tb (n := x23) S17 (by rw [(show ez_I h8 71 6 = ez_I h 71 6 from zW_f F18 x60_0 x60_1)]; exact hz) (by rw [(show ez_I h8 71 6 = ez_I h 71 6 from zW_f F18 x60_0 x60_1)]; omega) (by omega) (by omega) (fun h25 x27 F26 k28 k29 k30 => ?_)
          have rx27 := z_rng x27
          rw [(show ez_I h8 71 6 = ez_I h 71 6 from zW_f F18 x60_0 x60_1), (show ez_I h8 72 = ez_I h 72 from zW_fn F18 72 x60_2 x60_3), show x23.toInt.toNat = 16 by omega, show (ez_I h8 71 59).toInt.toNat = (((ez_I h 71 59).toInt.toNat + 7) / 8 * 8) + 16 by omega] at k28
          rw [(show ez_I h8 71 6 = ez_I h 71 6 from zW_f F18 x60_0 x60_1)] at k29
          have vlx27 := vB_lt (tB (ez_I h 72)) ((((ez_I h 71 59).toInt.toNat + 7) / 8 * 8) + 16) (16)
          have vpx27 := Nat.pow_le_pow_right (n := 2) (by decide) (show 16 ≤ 16 by omega)
          have S34 := zW_sh F26 S17
          have F35 := zW_tr F18 (zW_mono F26 (x60_4) (x60_5) (x60_6))
          have r36 := z_rng (ez_I h25 71 59)
          have r37 := z_rng (ez_I h25 71 61)
          have f38 : ez_I h25 71 60 = (ez_I h2 71 60) := (zW_f F26 (fun c => c) (by decide)).trans (f21)
          have A39 : oM (ez_I h25 76) o (ez_I h 71 60).toInt.toNat := by rw [zW_fn F26 76 (fun c => c) (x60_7)]; exact A22
          clear A22
          by_cases hok31 : (ez_I h8 71 59).toInt + x23.toInt ≤ 8 * (ez_I h 71 6).toInt
          · have ko32 := k28 (by omega) (by omega)
            clear k28 k29 k30
            refine gw_st rfl rfl rfl ?_
            show ez_gw _ _ _ _ _ _ _ _ [some (.ref 71), some (.int x10), some (.int x27), l3, l4] _ _ _
            refine gw_ld rfl rfl ?_
            refine z_gI2 (by decide) (zT S34 (by decide) rfl) (rfl) ?_
            refine z_b1 (fun c40 => ?_) (fun c40 => ?_)
            · have c40 : ((ez_I h25 71 61)).toInt ≠ 0 := c40
              exfalso; omega
            · have c40 : ¬ (((ez_I h25 71 61)).toInt ≠ 0) := c40
              refine gw_ld rfl rfl ?_
              refine gw_ld rfl rfl ?_
              refine z_2 rfl (fun x41 ex41 => ?_)
              have rx41 := z_rng x41
              have vx := xo_is ko15.1 ko32.1 (by omega) (by omega) ex41
              refine z_C (m := 65535) rfl rfl (fun x42 ex42 => ?_)
              refine z_b2 (fun c43 => ?_) (fun c43 => ?_)
              · have c43 : x41.toInt = x42.toInt := c43
                refine gw_skip _ ?_
                refine z_C (m := 0) rfl rfl (fun x44 ex44 => ?_)
                refine gw_st rfl rfl rfl ?_
                show ez_gw _ _ _ _ _ _ _ _ [some (.ref 71), some (.int x10), some (.int x27), some (.int x44), l4] _ _ _
                have t45 := congrArg Int32.toInt (f38)
                exact ez_Wp_at ((d_stored_L1 (o := o) S hz hp hf hg ho K (((100000 - x44.toInt)).toNat + 1)) h25 x10 x27 x44 (l4) ((((ez_I h 71 59).toInt.toNat + 7) / 8 * 8) + 32) o (ez_I h 71 60).toInt.toNat (ez_I h25 71 61).toInt.toNat F35 (by omega) ((fun q => by omega)) (⟨fun q => stS_y (q := (((ez_I h 71 59).toInt.toNat + 7) / 8 * 8)) rfl (by omega) (vx.symm.trans (by omega)) (by omega), fun q => by exfalso; omega⟩) ((fun _ => A39)) (by omega)) rfl
              · have c43 : ¬ (x41.toInt = x42.toInt) := c43
                refine gw_ld rfl rfl ?_
                refine z_C (m := 3) rfl rfl (fun x46 ex46 => ?_)
                have t47 := congrArg Int32.toInt (f38)
                refine z_cl rfl rfl rfl rfl rfl rfl rfl rfl rfl rfl rfl (zT S34 (by decide) rfl) ?_
                refine d_wrong (n := x46) S34 (fun h48 F49 k50 k51 => ?_)
                have kw52 := k50 (by omega)
                clear k50 k51
                have S53 := zW_sh F49 S34
                have F54 := zW_tr F35 (zW_mono F49 (x60_10) (x60_5) (x60_6))
                have f55 : ez_I h48 71 59 = (ez_I h25 71 59) := (zW_f F49 (fun c => c) (by decide)).trans (rfl)
                have r56 := z_rng (ez_I h48 71 61)
                have f57 : ez_I h48 71 60 = (ez_I h2 71 60) := (zW_f F49 (fun c => c) (by decide)).trans (f38)
                have A58 : oM (ez_I h48 76) o (ez_I h 71 60).toInt.toNat := by rw [zW_fn F49 76 (fun c => c) (x60_11)]; exact A39
                clear A39
                refine z_C (m := 0) rfl rfl (fun x59 ex59 => ?_)
                refine gw_st rfl rfl rfl ?_
                show ez_gw _ _ _ _ _ _ _ _ [some (.ref 71), some (.int x10), some (.int x27), some (.int x59), l4] _ _ _
                have t60 := congrArg Int32.toInt (f55)
                have t61 := congrArg Int32.toInt (f57)
                exact ez_Wp_at ((d_stored_L1 (o := o) S hz hp hf hg ho K (((100000 - x59.toInt)).toNat + 1)) h48 x10 x27 x59 (l4) ((((ez_I h 71 59).toInt.toNat + 7) / 8 * 8) + 32) o (ez_I h 71 60).toInt.toNat (ez_I h48 71 61).toInt.toNat F54 (by omega) ((fun q => by exfalso; omega)) (⟨fun q => by exfalso; omega, fun q => stS_x (q := (((ez_I h 71 59).toInt.toNat + 7) / 8 * 8)) rfl (fun q => by omega)⟩) ((fun q => by exfalso; omega)) (by omega)) rfl
          · have kf33 := k29 (by omega) (by omega)
            clear k28 k29 k30
            refine gw_st rfl rfl rfl ?_
            show ez_gw _ _ _ _ _ _ _ _ [some (.ref 71), some (.int x10), some (.int x27), l3, l4] _ _ _
            refine gw_ld rfl rfl ?_
            refine z_gI2 (by decide) (zT S34 (by decide) rfl) (rfl) ?_
            refine z_b1 (fun c62 => ?_) (fun c62 => ?_)
            · have c62 : ((ez_I h25 71 61)).toInt ≠ 0 := c62
              refine gw_skip _ ?_
              refine z_C (m := 0) rfl rfl (fun x63 ex63 => ?_)
              refine gw_st rfl rfl rfl ?_
              show ez_gw _ _ _ _ _ _ _ _ [some (.ref 71), some (.int x10), some (.int x27), some (.int x63), l4] _ _ _
              have t64 := congrArg Int32.toInt (f38)
              exact ez_Wp_at ((d_stored_L1 (o := o) S hz hp hf hg ho K (((100000 - x63.toInt)).toNat + 1)) h25 x10 x27 x63 (l4) ((((ez_I h 71 59).toInt.toNat + 7) / 8 * 8) + 32) o (ez_I h 71 60).toInt.toNat (ez_I h25 71 61).toInt.toNat F35 (by omega) ((fun q => by exfalso; omega)) (⟨fun q => by exfalso; omega, fun q => stS_o (by omega)⟩) ((fun q => by exfalso; omega)) (by omega)) rfl
            · have c62 : ¬ (((ez_I h25 71 61)).toInt ≠ 0) := c62
              exfalso; omega
        · have kf16 := k12 (by omega) (by omega)
          clear k11 k12 k13
          refine gw_st rfl rfl rfl ?_
          show ez_gw _ _ _ _ _ _ _ _ [some (.ref 71), some (.int x10), l2, l3, l4] _ _ _
          refine gw_ld rfl rfl ?_
          refine z_C (m := 16) rfl rfl (fun x65 ex65 => ?_)
          have t66 := congrArg Int32.toInt (f21)
          refine z_cl rfl rfl rfl rfl rfl rfl rfl rfl rfl rfl rfl (zT S17 (by decide) rfl) ?_
          refine d_tb (n := x65) S17 (by rw [(show ez_I h8 71 6 = ez_I h 71 6 from zW_f F18 x60_0 x60_1)]; exact hz) (by rw [(show ez_I h8 71 6 = ez_I h 71 6 from zW_f F18 x60_0 x60_1)]; omega) (by omega) (by omega) (fun h67 x69 F68 k70 k71 k72 => ?_)
          have rx69 := z_rng x69
          have kf73 := k72 (by omega)
          clear k70 k71 k72
          have S74 := zW_sh F68 S17
          have F75 := zW_tr F18 (zW_mono F68 (x60_4) (x60_5) (x60_6))
          have r76 := z_rng (ez_I h67 71 59)
          have r77 := z_rng (ez_I h67 71 61)
          have f78 : ez_I h67 71 60 = (ez_I h2 71 60) := (zW_f F68 (fun c => c) (by decide)).trans (f21)
          have A79 : oM (ez_I h67 76) o (ez_I h 71 60).toInt.toNat := by rw [zW_fn F68 76 (fun c => c) (x60_7)]; exact A22
          clear A22
          refine gw_st rfl rfl rfl ?_
          show ez_gw _ _ _ _ _ _ _ _ [some (.ref 71), some (.int x10), some (.int x69), l3, l4] _ _ _
          refine gw_ld rfl rfl ?_
          refine z_gI2 (by decide) (zT S74 (by decide) rfl) (rfl) ?_
          refine z_b1 (fun c80 => ?_) (fun c80 => ?_)
          · have c80 : ((ez_I h67 71 61)).toInt ≠ 0 := c80
            refine gw_skip _ ?_
            refine z_C (m := 0) rfl rfl (fun x81 ex81 => ?_)
            refine gw_st rfl rfl rfl ?_
            show ez_gw _ _ _ _ _ _ _ _ [some (.ref 71), some (.int x10), some (.int x69), some (.int x81), l4] _ _ _
            have t82 := congrArg Int32.toInt (f78)
            exact ez_Wp_at ((d_stored_L1 (o := o) S hz hp hf hg ho K (((100000 - x81.toInt)).toNat + 1)) h67 x10 x69 x81 (l4) ((((ez_I h 71 59).toInt.toNat + 7) / 8 * 8) + 32) o (ez_I h 71 60).toInt.toNat (ez_I h67 71 61).toInt.toNat F75 (by omega) ((fun q => by exfalso; omega)) (⟨fun q => by exfalso; omega, fun q => stS_o (by omega)⟩) ((fun q => by exfalso; omega)) (by omega)) rfl
          · have c80 : ¬ (((ez_I h67 71 61)).toInt ≠ 0) := c80
            exfalso; omega
      · have c6 : ¬ (x5.toInt = 0) := c6
        refine gw_ld rfl rfl ?_
        refine gw_op rfl ?_
        refine z_gI2 (by decide) (zT S2 (by decide) rfl) (rfl) ?_
        refine z_C (m := 1) rfl rfl (fun x83 ex83 => ?_)
        refine z_add (by omega) (fun x84 ex84 => ?_)
        refine z_pI (zT S2 (by decide) rfl) (fun h85 e86 => ?_)
        have S87 := zSh_set S2 e86
        have F88 := zW_setF F e86 (by decide)
        have f89 : ez_I h85 71 59 = x84 := zI_eq e86
        have f90 : ez_I h85 71 61 = (ez_I h2 71 61) := (zI_ne e86 (by decide)).trans (rfl)
        have f91 : ez_I h85 71 60 = (ez_I h2 71 60) := (zI_ne e86 (by decide)).trans (rfl)
        have A92 : oM (ez_I h85 76) o (ez_I h 71 60).toInt.toNat := by rw [zI_fn e86 76 (by decide)]; exact A_or
        refine z_go ?_
        have t93 := congrArg Int32.toInt (f89)
        have t94 := congrArg Int32.toInt (f90)
        have t95 := congrArg Int32.toInt (f91)
        exact ih h85 (l1) (l2) (l3) (l4) F88 (by omega) (A92) (by omega)
set_option maxRecDepth 4000 in
set_option maxHeartbeats 2000000 in
theorem d_stored {E : Nat → Nat × (Nat → Int32)} {d : Nat} {Q : ez_Q} {h : ez_H} {o : Nat → Int} (S : zSh h) (hz : 0 ≤ (ez_I h 71 6).toInt ∧ (ez_I h 71 6).toInt ≤ 6000) (hp : 0 ≤ (ez_I h 71 59).toInt ∧ (ez_I h 71 59).toInt ≤ 8 * (ez_I h 71 6).toInt) (hf : (ez_I h 71 61).toInt = 0) (hg : 0 ≤ (ez_I h 71 60).toInt ∧ (ez_I h 71 60).toInt ≤ 6000) (ho : oM (ez_I h 76) o (ez_I h 71 60).toInt.toNat) (K : ∀ h2, zW (fun q k => q = 71 ∧ k = 59 ∨ q = 71 ∧ k = 61 ∨ q = 71 ∧ k = 60) (fun q => q = 76) (fun _ => False) h h2 → (((ez_I h2 71 61).toInt = 0 ∧ ∃ (q : Nat) (o2 : Nat → Int) (m2 : Nat), stS (tB (ez_I h 72)) (ez_I h 71 6).toInt.toNat (ez_I h 71 59).toInt.toNat o (ez_I h 71 60).toInt.toNat = some (q, o2, m2) ∧ (ez_I h2 71 59).toInt = q ∧ (ez_I h2 71 60).toInt = m2 ∧ oM (ez_I h2 76) o2 m2) ∨ (1 ≤ (ez_I h2 71 61).toInt ∧ stS (tB (ez_I h 72)) (ez_I h 71 6).toInt.toNat (ez_I h 71 59).toInt.toNat o (ez_I h 71 60).toInt.toNat = none)) → (0 ≤ (ez_I h2 71 59).toInt ∧ (ez_I h2 71 59).toInt ≤ 8 * (ez_I h 71 6).toInt) → (0 ≤ (ez_I h2 71 60).toInt ∧ (ez_I h2 71 60).toInt ≤ 6000) → Q (.inl none) h2) : pw E (d + 2) 57 0 [some (.ref 71), none, none, none, none] [] h Q := by
  have F := zW_refl (fun q k => q = 71 ∧ k = 59 ∨ q = 71 ∧ k = 61 ∨ q = 71 ∧ k = 60) (fun q => q = 76) (fun _ => False) h
  apply ez_Wp_in
  show ez_gw _ _ _ _ _ _ (cz_57) _ _ _ _ _
  refine gw_skip _ ?_
  have r1 := z_rng (ez_I h 71 59)
  have r2 := z_rng (ez_I h 71 61)
  have r3 := z_rng (ez_I h 71 60)
  exact ez_Wp_at ((d_stored_L0 (o := o) S hz hp hf hg ho K (((100000 - (ez_I h 71 59).toInt)).toNat + 1)) h (none) (none) (none) (none) F (by omega) (ho) (by omega)) rfl
theorem x60_12 : ¬ (71 = 76 ∨ 71 = 115) := by omega
theorem x60_13 : ¬ (72 = 76 ∨ 72 = 115) := by omega
theorem x60_14 : ¬ (120 = 76 ∨ 120 = 115) := by omega
theorem x60_15 : ∀ k : Nat, ¬ (120 = 71 ∧ k = 59 ∨ 120 = 71 ∧ k = 61 ∨ 120 = 71 ∧ k = 60) := fun k c => by omega
theorem x60_16 : ∀ q : Nat, (q = 115) → (q = 76 ∨ q = 115) := fun q hk => (.inr hk)
theorem x60_17 : ∀ k : Nat, ¬ (92 = 71 ∧ k = 59 ∨ 92 = 71 ∧ k = 61 ∨ 92 = 71 ∧ k = 60) := fun k c => by omega
theorem x60_18 : ∀ k : Nat, ¬ (93 = 71 ∧ k = 59 ∨ 93 = 71 ∧ k = 61 ∨ 93 = 71 ∧ k = 60) := fun k c => by omega
theorem x60_19 : ∀ q : Nat, (False) → (q = 76 ∨ q = 115) := fun q hk => hk.elim
theorem x60_20 : ¬ (121 = 76 ∨ 121 = 115) := by omega
theorem x60_21 : ∀ k : Nat, ¬ (121 = 71 ∧ k = 59 ∨ 121 = 71 ∧ k = 61 ∨ 121 = 71 ∧ k = 60) := fun k c => by omega
theorem x60_22 : ∀ k : Nat, ¬ (94 = 71 ∧ k = 59 ∨ 94 = 71 ∧ k = 61 ∨ 94 = 71 ∧ k = 60) := fun k c => by omega
theorem x60_23 : ∀ k : Nat, ¬ (95 = 71 ∧ k = 59 ∨ 95 = 71 ∧ k = 61 ∨ 95 = 71 ∧ k = 60) := fun k c => by omega
theorem x60_24 : ∀ q : Nat, (q = 76) → (q = 76 ∨ q = 115) := fun q hk => (.inl hk)
set_option maxRecDepth 4000 in
set_option maxHeartbeats 2000000 in
theorem d_codes_L0 {E : Nat → Nat × (Nat → Int32)} {d : Nat} {Q : ez_Q} {h : ez_H} {o : Nat → Int} (S : zSh h) (hz : 0 ≤ (ez_I h 71 6).toInt ∧ (ez_I h 71 6).toInt ≤ 6000) (hp : 0 ≤ (ez_I h 71 59).toInt ∧ (ez_I h 71 59).toInt ≤ 8 * (ez_I h 71 6).toInt) (hf : (ez_I h 71 61).toInt = 0) (hg : 0 ≤ (ez_I h 71 60).toInt ∧ (ez_I h 71 60).toInt ≤ 6000) (ho : oM (ez_I h 76) o (ez_I h 71 60).toInt.toNat) (t92 : ctI (ez_I h 92) LBf 29) (t93 : ctI (ez_I h 93) LEf 29) (t94 : ctI (ez_I h 94) DBf 30) (t95 : ctI (ez_I h 95) DEf 30) (hL1 : aR (ez_I h 120) 288 0 15) (ho1 : plN (nL (ez_I h 120)) 288 16 = 1 → ctN (nL (ez_I h 120)) 1 288 = 1) (hLD : aR (ez_I h 121) 32 0 15) (ho2 : plN (nL (ez_I h 121)) 32 16 = 1 → ctN (nL (ez_I h 121)) 1 32 = 1) (K : ∀ h2, zW (fun q k => q = 71 ∧ k = 59 ∨ q = 71 ∧ k = 61 ∨ q = 71 ∧ k = 60) (fun q => q = 76 ∨ q = 115) (fun _ => False) h h2 → (((ez_I h2 71 61).toInt = 0 ∧ ∃ (q : Nat) (o2 : Nat → Int) (m2 : Nat), upP (tB (ez_I h 72)) (ez_I h 71 6).toInt.toNat (nL (ez_I h 120)) 288 (nL (ez_I h 121)) 32 (8 * (ez_I h 71 6).toInt.toNat) (ez_I h 71 59).toInt.toNat o (ez_I h 71 60).toInt.toNat = some (q, o2, m2) ∧ (ez_I h2 71 59).toInt = q ∧ (ez_I h2 71 60).toInt = m2 ∧ oM (ez_I h2 76) o2 m2) ∨ (1 ≤ (ez_I h2 71 61).toInt ∧ upP (tB (ez_I h 72)) (ez_I h 71 6).toInt.toNat (nL (ez_I h 120)) 288 (nL (ez_I h 121)) 32 (8 * (ez_I h 71 6).toInt.toNat) (ez_I h 71 59).toInt.toNat o (ez_I h 71 60).toInt.toNat = none)) → (0 ≤ (ez_I h2 71 59).toInt ∧ (ez_I h2 71 59).toInt ≤ 8 * (ez_I h 71 6).toInt) → (0 ≤ (ez_I h2 71 60).toInt ∧ (ez_I h2 71 60).toInt ≤ 6000) → Q (.inl none) h2) : ∀ N : Nat, (∀ (h2 : ez_H) (sy : Int32) (l2 : Option Value) (l3 : Option Value) (l4 : Option Value) (l5 : Option Value) (p2 : Nat) (o2 : Nat → Int) (m2 : Nat) (fl : Nat) (mz : Nat), zW (fun q k => q = 71 ∧ k = 59 ∨ q = 71 ∧ k = 61 ∨ q = 71 ∧ k = 60) (fun q => q = 76 ∨ q = 115) (fun _ => False) h h2 → ((ez_I h2 71 61).toInt = fl ∧ 0 ≤ (ez_I h2 71 59).toInt ∧ (ez_I h2 71 59).toInt ≤ 8 * (ez_I h 71 6).toInt ∧ 0 ≤ (ez_I h2 71 60).toInt ∧ (ez_I h2 71 60).toInt ≤ 6000) → (imP fl ((ez_I h2 71 59).toInt = p2 ∧ (ez_I h2 71 60).toInt = m2 ∧ (sy.toInt ≠ 256 → 50000 ≤ mz + p2))) → (sp3 fl sy.toInt 256 (upP (tB (ez_I h 72)) (ez_I h 71 6).toInt.toNat (nL (ez_I h 120)) 288 (nL (ez_I h 121)) 32 (8 * (ez_I h 71 6).toInt.toNat) (ez_I h 71 59).toInt.toNat o (ez_I h 71 60).toInt.toNat = upP (tB (ez_I h 72)) (ez_I h 71 6).toInt.toNat (nL (ez_I h 120)) 288 (nL (ez_I h 121)) 32 (8 * (ez_I h 71 6).toInt.toNat) p2 o2 m2) (upP (tB (ez_I h 72)) (ez_I h 71 6).toInt.toNat (nL (ez_I h 120)) 288 (nL (ez_I h 121)) 32 (8 * (ez_I h 71 6).toInt.toNat) (ez_I h 71 59).toInt.toNat o (ez_I h 71 60).toInt.toNat = some (p2, o2, m2)) (upP (tB (ez_I h 72)) (ez_I h 71 6).toInt.toNat (nL (ez_I h 120)) 288 (nL (ez_I h 121)) 32 (8 * (ez_I h 71 6).toInt.toNat) (ez_I h 71 59).toInt.toNat o (ez_I h 71 60).toInt.toNat = none)) → (imP fl (oM (ez_I h2 76) o2 m2)) → (200000 * (mz : Int)) < (N : Int) → pw E (d + 2) 59 2 [some (.ref 71), some (.int sy), l2, l3, l4, l5] [] h2 Q) ∧ (∀ (h2 : ez_H) (sy : Int32) (ln : Int32) (dz : Int32) (bk : Int32) (i : Int32) (p2 : Nat) (o2 : Nat → Int) (m2 : Nat) (fl : Nat) (mz : Nat), zW (fun q k => q = 71 ∧ k = 59 ∨ q = 71 ∧ k = 61 ∨ q = 71 ∧ k = 60) (fun q => q = 76 ∨ q = 115) (fun _ => False) h h2 → (0 ≤ i.toInt ∧ i.toInt ≤ 100001 ∧ (ez_I h2 71 61).toInt = fl ∧ 0 ≤ (ez_I h2 71 59).toInt ∧ (ez_I h2 71 59).toInt ≤ 8 * (ez_I h 71 6).toInt ∧ 0 ≤ (ez_I h2 71 60).toInt ∧ (ez_I h2 71 60).toInt ≤ 6000 ∧ 257 ≤ sy.toInt) → (imP fl (i.toInt ≤ ln.toInt ∧ ln.toInt ≤ 100000 ∧ (ez_I h2 71 59).toInt = p2 ∧ (ez_I h2 71 60).toInt = m2 ∧ 50000 ≤ mz + p2 ∧ 1 ≤ bk.toInt ∧ bk.toInt ≤ m2)) → (spP fl (upP (tB (ez_I h 72)) (ez_I h 71 6).toInt.toNat (nL (ez_I h 120)) 288 (nL (ez_I h 121)) 32 (8 * (ez_I h 71 6).toInt.toNat) (ez_I h 71 59).toInt.toNat o (ez_I h 71 60).toInt.toNat = upC (tB (ez_I h 72)) (ez_I h 71 6).toInt.toNat (nL (ez_I h 120)) 288 (nL (ez_I h 121)) 32 p2 (cpB (ln.toInt.toNat - i.toInt.toNat) o2 m2 bk.toInt.toNat)) (upP (tB (ez_I h 72)) (ez_I h 71 6).toInt.toNat (nL (ez_I h 120)) 288 (nL (ez_I h 121)) 32 (8 * (ez_I h 71 6).toInt.toNat) (ez_I h 71 59).toInt.toNat o (ez_I h 71 60).toInt.toNat = none)) → (imP fl (oM (ez_I h2 76) o2 m2)) → (200000 * (mz : Int) + 150000 - i.toInt) < (N : Int) → pw E (d + 2) 59 200 [some (.ref 71), some (.int sy), some (.int ln), some (.int dz), some (.int bk), some (.int i)] [] h2 Q) := by
  intro N
  induction N with
  | zero => exact ⟨fun h2 sy l2 l3 l4 l5 p2 o2 m2 fl mz F hinv A_im A_sp A_or hm => absurd hm (by have w_sy := z_rng sy; omega), fun h2 sy ln dz bk i p2 o2 m2 fl mz F hinv A_im A_sp A_or hm => absurd hm (by have w_sy := z_rng sy; have w_ln := z_rng ln; have w_dz := z_rng dz; have w_bk := z_rng bk; have w_i := z_rng i; omega)⟩
  | succ N ih =>
    refine ⟨fun h2 sy l2 l3 l4 l5 p2 o2 m2 fl mz F hinv A_im A_sp A_or hm => ?_, fun h2 sy ln dz bk i p2 o2 m2 fl mz F hinv A_im A_sp A_or hm => ?_⟩
    · skip
      have w_sy := z_rng sy
      have S2 := zW_sh F S
      apply ez_Wp_in
      show ez_gw _ _ _ _ _ _ (cz_59) _ _ _ _ _
      refine gw_skip _ ?_
      have r1 := z_rng (ez_I h2 71 59)
      have r2 := z_rng (ez_I h2 71 61)
      have r3 := z_rng (ez_I h2 71 60)
      refine gw_ld rfl rfl ?_
      refine z_C (m := 256) rfl rfl (fun x4 ex4 => ?_)
      refine z_b2 (fun c5 => ?_) (fun c5 => ?_)
      · have c5 : sy.toInt = x4.toInt := c5
        refine gw_skip _ ?_
        refine z_rv ?_
        by_cases hq : fl = 0
        · obtain ⟨hI1, hI2, hI3⟩ := A_im hq
          exact K _ F (.inl ⟨by omega, p2, o2, m2, A_sp.2.1 hq (by omega), by omega, by omega, A_or hq⟩) (by omega) (by omega)
        · exact K _ F (.inr ⟨by omega, A_sp.2.2 hq⟩) (by omega) (by omega)
      · have c5 : ¬ (sy.toInt = x4.toInt) := c5
        refine gw_ld rfl rfl ?_
        refine z_gI2 (by decide) (zT S2 (by decide) rfl) (rfl) ?_
        refine z_b1 (fun c6 => ?_) (fun c6 => ?_)
        · have c6 : ((ez_I h2 71 61)).toInt ≠ 0 := c6
          refine gw_skip _ ?_
          refine z_rv ?_
          by_cases hq : fl = 0
          · obtain ⟨hI1, hI2, hI3⟩ := A_im hq
            exact K _ F (.inl ⟨by omega, p2, o2, m2, A_sp.2.1 hq (by omega), by omega, by omega, A_or hq⟩) (by omega) (by omega)
          · exact K _ F (.inr ⟨by omega, A_sp.2.2 hq⟩) (by omega) (by omega)
        · have c6 : ¬ (((ez_I h2 71 61)).toInt ≠ 0) := c6
          obtain ⟨hI1, hI2, hI3⟩ := A_im (by omega)
          replace hI3 := hI3 (by omega)
          refine gw_ld rfl rfl ?_
          refine gw_ld rfl rfl ?_
          refine z_gR (q := 120) (zT S2 (by decide) rfl) (zRf S2 (by decide) (by decide) rfl) (by decide) ?_
          refine z_C (m := 288) rfl rfl (fun x7 ex7 => ?_)
          refine z_cl rfl rfl rfl rfl rfl rfl rfl rfl rfl rfl rfl (zT S2 (by decide) rfl) ?_
          refine d_sym (u := 120) (n := x7) S2 (nu := 288) (fun _ S => ⟨zT S (by decide) rfl, zN S (by decide) rfl⟩) (by decide) (by omega) (by rw [(show ez_I h2 71 6 = ez_I h 71 6 from zW_f F x60_12 x60_1)]; exact hz) (by rw [(show ez_I h2 71 6 = ez_I h 71 6 from zW_f F x60_12 x60_1)]; omega) (by omega) (by rw [(show ez_I h2 120 = ez_I h 120 from zW_fn F 120 x60_14 x60_15), show x7.toInt.toNat = 288 by omega]; exact hL1) (by rw [(show ez_I h2 120 = ez_I h 120 from zW_fn F 120 x60_14 x60_15), show x7.toInt.toNat = 288 by omega]; exact ho1) (fun h8 x10 F9 k11 k12 => ?_)
          rw [(show ez_I h2 71 6 = ez_I h 71 6 from zW_f F x60_12 x60_1)] at k12
          have rx10 := z_rng x10
          have S14 := zW_sh F9 S2
          have F15 := zW_tr F (zW_mono F9 (x60_4) (x60_16) (x60_6))
          have r16 := z_rng (ez_I h8 71 59)
          have r17 := z_rng (ez_I h8 71 61)
          have f18 : ez_I h8 71 60 = (ez_I h2 71 60) := (zW_f F9 (by decide) (by decide)).trans (rfl)
          have A19 : imP fl (oM (ez_I h8 76) o2 m2) := by rw [zW_fn F9 76 (by decide) (x60_7)]; exact A_or
          rcases k11 with ⟨ka20, q13, kb21, kc22, kd23⟩ | ⟨ka20, kb21, kc22⟩
          · have sdx10 : sdR (tB (ez_I h2 72)) (ez_I h2 71 6).toInt.toNat (ez_I h2 71 59).toInt.toNat (nL (ez_I h2 120)) x7.toInt.toNat = some (x10.toInt.toNat, q13) := kb21
            rw [(show ez_I h2 72 = ez_I h 72 from zW_fn F 72 x60_13 x60_3), (show ez_I h2 71 6 = ez_I h 71 6 from zW_f F x60_12 x60_1), (show ez_I h2 120 = ez_I h 120 from zW_fn F 120 x60_14 x60_15), show x7.toInt.toNat = 288 by omega, show (ez_I h2 71 59).toInt.toNat = p2 by omega] at sdx10
            have sox10 := sdR_ok sdx10
            have ssx10 := sdR_s sdx10
            refine gw_st rfl rfl rfl ?_
            show ez_gw _ _ _ _ _ _ _ _ [some (.ref 71), some (.int x10), l2, l3, l4, l5] _ _ _
            refine gw_ld rfl rfl ?_
            refine z_gI2 (by decide) (zT S14 (by decide) rfl) (rfl) ?_
            refine z_b1 (fun c24 => ?_) (fun c24 => ?_)
            · have c24 : ((ez_I h8 71 61)).toInt ≤ 0 := c24
              refine gw_skip _ ?_
              refine gw_ld rfl rfl ?_
              refine z_C (m := 256) rfl rfl (fun x25 ex25 => ?_)
              refine z_b2 (fun c26 => ?_) (fun c26 => ?_)
              · have c26 : x25.toInt ≤ x10.toInt := c26
                refine gw_skip _ ?_
                refine gw_ld rfl rfl ?_
                refine z_C (m := 285) rfl rfl (fun x27 ex27 => ?_)
                refine z_b2 (fun c28 => ?_) (fun c28 => ?_)
                · have c28 : x10.toInt ≤ x27.toInt := c28
                  refine gw_skip _ ?_
                  refine gw_ld rfl rfl ?_
                  refine z_C (m := 257) rfl rfl (fun x29 ex29 => ?_)
                  refine z_b2 (fun c30 => ?_) (fun c30 => ?_)
                  · have c30 : x10.toInt < x29.toInt := c30
                    have t31 := congrArg Int32.toInt (f18)
                    exact ih.1 h8 x10 (l2) (l3) (l4) (l5) q13 o2 m2 (ez_I h8 71 61).toInt.toNat (mz - 1) F15 (by omega) ((fun q => ⟨by omega, by omega, fun _ => by omega⟩)) (⟨fun _ q => by exfalso; omega, fun _ _ => (A_sp.1 (by omega) (by omega)).trans (upP_t (stP_e (by rw [sdx10]; congr 2; omega))), fun q => by exfalso; omega⟩) ((fun q => A19 (by omega))) (by omega)
                  · have c30 : ¬ (x10.toInt < x29.toInt) := c30
                    refine gw_ld rfl rfl ?_
                    refine z_gI2 (by decide) (zT S14 (by decide) rfl) (rfl) ?_
                    refine z_b1 (fun c32 => ?_) (fun c32 => ?_)
                    · have c32 : ((ez_I h8 71 61)).toInt ≤ 0 := c32
                      refine gw_skip _ ?_
                      refine gw_ld rfl rfl ?_
                      refine z_gR (q := 92) (zT S14 (by decide) rfl) (zRf S14 (by decide) (by decide) rfl) (by decide) ?_
                      refine gw_ld rfl rfl ?_
                      refine z_C (m := 257) rfl rfl (fun x33 ex33 => ?_)
                      refine z_sub (by omega) (fun x34 ex34 => ?_)
                      refine z_iaV (n := 29) (zT S14 (by decide) rfl) (zN S14 (by decide) rfl) (by omega) (zW_f F15 (by decide) (x60_17 _)) ?_
                      generalize ex35 : ez_I h 92 x34.toInt.toNat = x35
                      have rx35 := z_rng x35
                      have yx35 := t92 x34.toInt.toNat (by omega)
                      rw [ex35] at yx35
                      rw [show x34.toInt.toNat = (x10.toInt.toNat - 257) by omega] at yx35
                      refine gw_ld rfl rfl ?_
                      refine gw_ld rfl rfl ?_
                      refine z_gR (q := 93) (zT S14 (by decide) rfl) (zRf S14 (by decide) (by decide) rfl) (by decide) ?_
                      refine gw_ld rfl rfl ?_
                      refine z_C (m := 257) rfl rfl (fun x36 ex36 => ?_)
                      refine z_sub (by omega) (fun x37 ex37 => ?_)
                      refine z_iaV (n := 29) (zT S14 (by decide) rfl) (zN S14 (by decide) rfl) (by omega) (zW_f F15 (by decide) (x60_18 _)) ?_
                      generalize ex38 : ez_I h 93 x37.toInt.toNat = x38
                      have rx38 := z_rng x38
                      have yx38 := t93 x37.toInt.toNat (by omega)
                      rw [ex38] at yx38
                      rw [show x37.toInt.toNat = (x10.toInt.toNat - 257) by omega] at yx38
                      have t39 := congrArg Int32.toInt (f18)
                      refine z_cl rfl rfl rfl rfl rfl rfl rfl rfl rfl rfl rfl (zT S14 (by decide) rfl) ?_
                      have hle : LEf (x10.toInt.toNat - 257) = x38.toInt.toNat := by omega
                      have hl5 := LE_5 (x10.toInt.toNat - 257)
                      refine d_tb (n := x38) S14 (by rw [(show ez_I h8 71 6 = ez_I h 71 6 from zW_f F15 x60_12 x60_1)]; exact hz) (by rw [(show ez_I h8 71 6 = ez_I h 71 6 from zW_f F15 x60_12 x60_1)]; omega) (by omega) (by omega) (fun h40 x42 F41 k43 k44 k45 => ?_)
                      have rx42 := z_rng x42
                      rw [(show ez_I h8 71 6 = ez_I h 71 6 from zW_f F15 x60_12 x60_1), (show ez_I h8 72 = ez_I h 72 from zW_fn F15 72 x60_13 x60_3), show x38.toInt.toNat = x38.toInt.toNat by omega, show (ez_I h8 71 59).toInt.toNat = q13 by omega] at k43
                      rw [(show ez_I h8 71 6 = ez_I h 71 6 from zW_f F15 x60_12 x60_1)] at k44
                      have vlx42 := vB_lt (tB (ez_I h 72)) (q13) (x38.toInt.toNat)
                      have vpx42 := Nat.pow_le_pow_right (n := 2) (by decide) (show x38.toInt.toNat ≤ 16 by omega)
                      have S49 := zW_sh F41 S14
                      have F50 := zW_tr F15 (zW_mono F41 (x60_4) (x60_19) (x60_6))
                      have r51 := z_rng (ez_I h40 71 59)
                      have r52 := z_rng (ez_I h40 71 61)
                      have f53 : ez_I h40 71 60 = (ez_I h2 71 60) := (zW_f F41 (fun c => c) (by decide)).trans (f18)
                      have A54 : imP fl (oM (ez_I h40 76) o2 m2) := by rw [zW_fn F41 76 (fun c => c) (x60_7)]; exact A19
                      clear A19
                      by_cases hok46 : (ez_I h8 71 59).toInt + x38.toInt ≤ 8 * (ez_I h 71 6).toInt
                      · have ko47 := k43 (by omega) (by omega)
                        clear k43 k44 k45
                        have hlb := LB_300 (x10.toInt.toNat - 257)
                        refine z_add (by omega) (fun x55 ex55 => ?_)
                        refine gw_st rfl rfl rfl ?_
                        show ez_gw _ _ _ _ _ _ _ _ [some (.ref 71), some (.int x10), some (.int x55), l3, l4, l5] _ _ _
                        refine gw_ld rfl rfl ?_
                        refine z_gI2 (by decide) (zT S49 (by decide) rfl) (rfl) ?_
                        refine z_b1 (fun c56 => ?_) (fun c56 => ?_)
                        · have c56 : ((ez_I h40 71 61)).toInt ≤ 0 := c56
                          refine gw_skip _ ?_
                          refine gw_ld rfl rfl ?_
                          refine gw_ld rfl rfl ?_
                          refine z_gR (q := 121) (zT S49 (by decide) rfl) (zRf S49 (by decide) (by decide) rfl) (by decide) ?_
                          refine z_C (m := 32) rfl rfl (fun x57 ex57 => ?_)
                          have t58 := congrArg Int32.toInt (f53)
                          refine z_cl rfl rfl rfl rfl rfl rfl rfl rfl rfl rfl rfl (zT S49 (by decide) rfl) ?_
                          refine d_sym (u := 121) (n := x57) S49 (nu := 32) (fun _ S => ⟨zT S (by decide) rfl, zN S (by decide) rfl⟩) (by decide) (by omega) (by rw [(show ez_I h40 71 6 = ez_I h 71 6 from zW_f F50 x60_12 x60_1)]; exact hz) (by rw [(show ez_I h40 71 6 = ez_I h 71 6 from zW_f F50 x60_12 x60_1)]; omega) (by omega) (by rw [(show ez_I h40 121 = ez_I h 121 from zW_fn F50 121 x60_20 x60_21), show x57.toInt.toNat = 32 by omega]; exact hLD) (by rw [(show ez_I h40 121 = ez_I h 121 from zW_fn F50 121 x60_20 x60_21), show x57.toInt.toNat = 32 by omega]; exact ho2) (fun h59 x61 F60 k62 k63 => ?_)
                          rw [(show ez_I h40 71 6 = ez_I h 71 6 from zW_f F50 x60_12 x60_1)] at k63
                          have rx61 := z_rng x61
                          have S65 := zW_sh F60 S49
                          have F66 := zW_tr F50 (zW_mono F60 (x60_4) (x60_16) (x60_6))
                          have r67 := z_rng (ez_I h59 71 59)
                          have r68 := z_rng (ez_I h59 71 61)
                          have f69 : ez_I h59 71 60 = (ez_I h2 71 60) := (zW_f F60 (by decide) (by decide)).trans (f53)
                          have A70 : imP fl (oM (ez_I h59 76) o2 m2) := by rw [zW_fn F60 76 (by decide) (x60_7)]; exact A54
                          clear A54
                          rcases k62 with ⟨ka71, q64, kb72, kc73, kd74⟩ | ⟨ka71, kb72, kc73⟩
                          · have sdx61 : sdR (tB (ez_I h40 72)) (ez_I h40 71 6).toInt.toNat (ez_I h40 71 59).toInt.toNat (nL (ez_I h40 121)) x57.toInt.toNat = some (x61.toInt.toNat, q64) := kb72
                            rw [(show ez_I h40 72 = ez_I h 72 from zW_fn F50 72 x60_13 x60_3), (show ez_I h40 71 6 = ez_I h 71 6 from zW_f F50 x60_12 x60_1), (show ez_I h40 121 = ez_I h 121 from zW_fn F50 121 x60_20 x60_21), show x57.toInt.toNat = 32 by omega, show (ez_I h40 71 59).toInt.toNat = q13 + x38.toInt.toNat by omega] at sdx61
                            have sox61 := sdR_ok sdx61
                            have ssx61 := sdR_s sdx61
                            refine gw_st rfl rfl rfl ?_
                            show ez_gw _ _ _ _ _ _ _ _ [some (.ref 71), some (.int x10), some (.int x55), some (.int x61), l4, l5] _ _ _
                            refine gw_ld rfl rfl ?_
                            refine z_gI2 (by decide) (zT S65 (by decide) rfl) (rfl) ?_
                            refine z_b1 (fun c75 => ?_) (fun c75 => ?_)
                            · have c75 : ((ez_I h59 71 61)).toInt ≠ 0 := c75
                              exfalso; omega
                            · have c75 : ¬ (((ez_I h59 71 61)).toInt ≠ 0) := c75
                              refine gw_ld rfl rfl ?_
                              refine z_C (m := 29) rfl rfl (fun x76 ex76 => ?_)
                              refine z_b2 (fun c77 => ?_) (fun c77 => ?_)
                              · have c77 : x61.toInt ≤ x76.toInt := c77
                                refine gw_skip _ ?_
                                refine gw_ld rfl rfl ?_
                                refine z_gI2 (by decide) (zT S65 (by decide) rfl) (rfl) ?_
                                refine z_b1 (fun c78 => ?_) (fun c78 => ?_)
                                · have c78 : ((ez_I h59 71 61)).toInt ≤ 0 := c78
                                  refine gw_skip _ ?_
                                  refine gw_ld rfl rfl ?_
                                  refine z_gR (q := 94) (zT S65 (by decide) rfl) (zRf S65 (by decide) (by decide) rfl) (by decide) ?_
                                  refine gw_ld rfl rfl ?_
                                  refine z_iaV (n := 30) (zT S65 (by decide) rfl) (zN S65 (by decide) rfl) (by omega) (zW_f F66 (by decide) (x60_22 _)) ?_
                                  generalize ex79 : ez_I h 94 x61.toInt.toNat = x79
                                  have rx79 := z_rng x79
                                  have yx79 := t94 x61.toInt.toNat (by omega)
                                  rw [ex79] at yx79
                                  rw [show x61.toInt.toNat = x61.toInt.toNat by omega] at yx79
                                  refine gw_ld rfl rfl ?_
                                  refine gw_ld rfl rfl ?_
                                  refine z_gR (q := 95) (zT S65 (by decide) rfl) (zRf S65 (by decide) (by decide) rfl) (by decide) ?_
                                  refine gw_ld rfl rfl ?_
                                  refine z_iaV (n := 30) (zT S65 (by decide) rfl) (zN S65 (by decide) rfl) (by omega) (zW_f F66 (by decide) (x60_23 _)) ?_
                                  generalize ex80 : ez_I h 95 x61.toInt.toNat = x80
                                  have rx80 := z_rng x80
                                  have yx80 := t95 x61.toInt.toNat (by omega)
                                  rw [ex80] at yx80
                                  rw [show x61.toInt.toNat = x61.toInt.toNat by omega] at yx80
                                  have t81 := congrArg Int32.toInt (f69)
                                  refine z_cl rfl rfl rfl rfl rfl rfl rfl rfl rfl rfl rfl (zT S65 (by decide) rfl) ?_
                                  have hde : DEf x61.toInt.toNat = x80.toInt.toNat := by omega
                                  have hd13 := DE_13 x61.toInt.toNat
                                  refine d_tb (n := x80) S65 (by rw [(show ez_I h59 71 6 = ez_I h 71 6 from zW_f F66 x60_12 x60_1)]; exact hz) (by rw [(show ez_I h59 71 6 = ez_I h 71 6 from zW_f F66 x60_12 x60_1)]; omega) (by omega) (by omega) (fun h82 x84 F83 k85 k86 k87 => ?_)
                                  have rx84 := z_rng x84
                                  rw [(show ez_I h59 71 6 = ez_I h 71 6 from zW_f F66 x60_12 x60_1), (show ez_I h59 72 = ez_I h 72 from zW_fn F66 72 x60_13 x60_3), show x80.toInt.toNat = x80.toInt.toNat by omega, show (ez_I h59 71 59).toInt.toNat = q64 by omega] at k85
                                  rw [(show ez_I h59 71 6 = ez_I h 71 6 from zW_f F66 x60_12 x60_1)] at k86
                                  have vlx84 := vB_lt (tB (ez_I h 72)) (q64) (x80.toInt.toNat)
                                  have vpx84 := Nat.pow_le_pow_right (n := 2) (by decide) (show x80.toInt.toNat ≤ 16 by omega)
                                  have S91 := zW_sh F83 S65
                                  have F92 := zW_tr F66 (zW_mono F83 (x60_4) (x60_19) (x60_6))
                                  have r93 := z_rng (ez_I h82 71 59)
                                  have r94 := z_rng (ez_I h82 71 61)
                                  have f95 : ez_I h82 71 60 = (ez_I h2 71 60) := (zW_f F83 (fun c => c) (by decide)).trans (f69)
                                  have A96 : imP fl (oM (ez_I h82 76) o2 m2) := by rw [zW_fn F83 76 (fun c => c) (x60_7)]; exact A70
                                  clear A70
                                  by_cases hok88 : (ez_I h59 71 59).toInt + x80.toInt ≤ 8 * (ez_I h 71 6).toInt
                                  · have ko89 := k85 (by omega) (by omega)
                                    clear k85 k86 k87
                                    have hdb := DB_1 x61.toInt.toNat (by omega)
                                    refine z_add (by omega) (fun x97 ex97 => ?_)
                                    refine gw_st rfl rfl rfl ?_
                                    show ez_gw _ _ _ _ _ _ _ _ [some (.ref 71), some (.int x10), some (.int x55), some (.int x61), some (.int x97), l5] _ _ _
                                    refine gw_ld rfl rfl ?_
                                    refine z_gI2 (by decide) (zT S91 (by decide) rfl) (rfl) ?_
                                    refine z_b1 (fun c98 => ?_) (fun c98 => ?_)
                                    · have c98 : ((ez_I h82 71 61)).toInt ≠ 0 := c98
                                      exfalso; omega
                                    · have c98 : ¬ (((ez_I h82 71 61)).toInt ≠ 0) := c98
                                      refine gw_ld rfl rfl ?_
                                      refine gw_ld rfl rfl ?_
                                      refine z_gI2 (by decide) (zT S91 (by decide) rfl) (f95) ?_
                                      refine z_b2 (fun c99 => ?_) (fun c99 => ?_)
                                      · have c99 : x97.toInt ≤ ((ez_I h2 71 60)).toInt := c99
                                        refine gw_skip _ ?_
                                        refine z_C (m := 0) rfl rfl (fun x100 ex100 => ?_)
                                        refine gw_st rfl rfl rfl ?_
                                        show ez_gw _ _ _ _ _ _ _ _ [some (.ref 71), some (.int x10), some (.int x55), some (.int x61), some (.int x97), some (.int x100)] _ _ _
                                        have t101 := congrArg Int32.toInt (f95)
                                        exact ez_Wp_at (ih.2 h82 x10 x55 x61 x97 x100 (q64 + x80.toInt.toNat) o2 m2 (ez_I h82 71 61).toInt.toNat (mz - 1) F92 (by omega) ((fun q => by omega)) (⟨fun q => (A_sp.1 (by omega) (by omega)).trans (upC_is (by rw [stP_m (k := (x10.toInt.toNat - 257)) sdx10 (by omega) rfl, smU_3 (q2 := q13 + x38.toInt.toNat) (e := x80.toInt.toNat) (q3 := q64 + x80.toInt.toNat) (ln := x55.toInt.toNat - x100.toInt.toNat) (ds := x97.toInt.toNat) (by omega) (by omega) (by omega) sdx61 (by omega) hde.symm (by omega) (by omega) (by omega) (by rw [hle]; omega) rfl])), fun q => by exfalso; omega⟩) ((fun q => A96 (by omega))) (by omega)) rfl
                                      · have c99 : ¬ (x97.toInt ≤ ((ez_I h2 71 60)).toInt) := c99
                                        refine gw_ld rfl rfl ?_
                                        refine z_C (m := 8) rfl rfl (fun x102 ex102 => ?_)
                                        have t103 := congrArg Int32.toInt (f95)
                                        refine z_cl rfl rfl rfl rfl rfl rfl rfl rfl rfl rfl rfl (zT S91 (by decide) rfl) ?_
                                        refine d_wrong (n := x102) S91 (fun h104 F105 k106 k107 => ?_)
                                        have kw108 := k106 (by omega)
                                        clear k106 k107
                                        have S109 := zW_sh F105 S91
                                        have F110 := zW_tr F92 (zW_mono F105 (x60_10) (x60_19) (x60_6))
                                        have f111 : ez_I h104 71 59 = (ez_I h82 71 59) := (zW_f F105 (fun c => c) (by decide)).trans (rfl)
                                        have r112 := z_rng (ez_I h104 71 61)
                                        have f113 : ez_I h104 71 60 = (ez_I h2 71 60) := (zW_f F105 (fun c => c) (by decide)).trans (f95)
                                        have A114 : imP fl (oM (ez_I h104 76) o2 m2) := by rw [zW_fn F105 76 (fun c => c) (x60_11)]; exact A96
                                        clear A96
                                        refine z_C (m := 0) rfl rfl (fun x115 ex115 => ?_)
                                        refine gw_st rfl rfl rfl ?_
                                        show ez_gw _ _ _ _ _ _ _ _ [some (.ref 71), some (.int x10), some (.int x55), some (.int x61), some (.int x97), some (.int x115)] _ _ _
                                        have t116 := congrArg Int32.toInt (f111)
                                        have t117 := congrArg Int32.toInt (f113)
                                        exact ez_Wp_at (ih.2 h104 x10 x55 x61 x97 x115 p2 o2 m2 (ez_I h104 71 61).toInt.toNat (mz - 1) F110 (by omega) ((fun q => by exfalso; omega)) (⟨fun q => by exfalso; omega, fun q => (A_sp.1 (by omega) (by omega)).trans (upP_n (by rw [stP_m (k := (x10.toInt.toNat - 257)) sdx10 (by omega) rfl, smU_2 (q2 := q13 + x38.toInt.toNat) (by omega) (by omega) (by omega) sdx61 (.inr (.inr (by rw [hde]; omega)))]; rfl))⟩) ((fun q => by exfalso; omega)) (by omega)) rfl
                                  · have kf90 := k86 (by omega) (by omega)
                                    clear k85 k86 k87
                                    refine z_addW (fun x118 ex118 => ?_)
                                    have rx118 := z_rng x118
                                    refine gw_st rfl rfl rfl ?_
                                    show ez_gw _ _ _ _ _ _ _ _ [some (.ref 71), some (.int x10), some (.int x55), some (.int x61), some (.int x118), l5] _ _ _
                                    refine gw_ld rfl rfl ?_
                                    refine z_gI2 (by decide) (zT S91 (by decide) rfl) (rfl) ?_
                                    refine z_b1 (fun c119 => ?_) (fun c119 => ?_)
                                    · have c119 : ((ez_I h82 71 61)).toInt ≠ 0 := c119
                                      refine gw_skip _ ?_
                                      refine z_C (m := 0) rfl rfl (fun x120 ex120 => ?_)
                                      refine gw_st rfl rfl rfl ?_
                                      show ez_gw _ _ _ _ _ _ _ _ [some (.ref 71), some (.int x10), some (.int x55), some (.int x61), some (.int x118), some (.int x120)] _ _ _
                                      have t121 := congrArg Int32.toInt (f95)
                                      exact ez_Wp_at (ih.2 h82 x10 x55 x61 x118 x120 p2 o2 m2 (ez_I h82 71 61).toInt.toNat (mz - 1) F92 (by omega) ((fun q => by exfalso; omega)) (⟨fun q => by exfalso; omega, fun q => (A_sp.1 (by omega) (by omega)).trans (upP_n (by rw [stP_m (k := (x10.toInt.toNat - 257)) sdx10 (by omega) rfl, smU_2 (q2 := q13 + x38.toInt.toNat) (by omega) (by omega) (by omega) sdx61 (.inr (.inl (by omega)))]; rfl))⟩) ((fun q => by exfalso; omega)) (by omega)) rfl
                                    · have c119 : ¬ (((ez_I h82 71 61)).toInt ≠ 0) := c119
                                      exfalso; omega
                                · have c78 : ¬ (((ez_I h59 71 61)).toInt ≤ 0) := c78
                                  exfalso; omega
                              · have c77 : ¬ (x61.toInt ≤ x76.toInt) := c77
                                refine gw_ld rfl rfl ?_
                                refine z_C (m := 7) rfl rfl (fun x122 ex122 => ?_)
                                have t123 := congrArg Int32.toInt (f69)
                                refine z_cl rfl rfl rfl rfl rfl rfl rfl rfl rfl rfl rfl (zT S65 (by decide) rfl) ?_
                                refine d_wrong (n := x122) S65 (fun h124 F125 k126 k127 => ?_)
                                have kw128 := k126 (by omega)
                                clear k126 k127
                                have S129 := zW_sh F125 S65
                                have F130 := zW_tr F66 (zW_mono F125 (x60_10) (x60_19) (x60_6))
                                have f131 : ez_I h124 71 59 = (ez_I h59 71 59) := (zW_f F125 (fun c => c) (by decide)).trans (rfl)
                                have r132 := z_rng (ez_I h124 71 61)
                                have f133 : ez_I h124 71 60 = (ez_I h2 71 60) := (zW_f F125 (fun c => c) (by decide)).trans (f69)
                                have A134 : imP fl (oM (ez_I h124 76) o2 m2) := by rw [zW_fn F125 76 (fun c => c) (x60_11)]; exact A70
                                clear A70
                                refine gw_ld rfl rfl ?_
                                refine z_gI2 (by decide) (zT S129 (by decide) rfl) (rfl) ?_
                                refine z_b1 (fun c135 => ?_) (fun c135 => ?_)
                                · have c135 : ((ez_I h124 71 61)).toInt ≤ 0 := c135
                                  exfalso; omega
                                · have c135 : ¬ (((ez_I h124 71 61)).toInt ≤ 0) := c135
                                  refine z_C (m := 0) rfl rfl (fun x136 ex136 => ?_)
                                  refine z_go ?_
                                  refine gw_skip _ ?_
                                  refine gw_st rfl rfl rfl ?_
                                  show ez_gw _ _ _ _ _ _ _ _ [some (.ref 71), some (.int x10), some (.int x55), some (.int x61), some (.int x136), l5] _ _ _
                                  refine gw_ld rfl rfl ?_
                                  refine z_gI2 (by decide) (zT S129 (by decide) rfl) (rfl) ?_
                                  refine z_b1 (fun c137 => ?_) (fun c137 => ?_)
                                  · have c137 : ((ez_I h124 71 61)).toInt ≠ 0 := c137
                                    refine gw_skip _ ?_
                                    refine z_C (m := 0) rfl rfl (fun x138 ex138 => ?_)
                                    refine gw_st rfl rfl rfl ?_
                                    show ez_gw _ _ _ _ _ _ _ _ [some (.ref 71), some (.int x10), some (.int x55), some (.int x61), some (.int x136), some (.int x138)] _ _ _
                                    have t139 := congrArg Int32.toInt (f131)
                                    have t140 := congrArg Int32.toInt (f133)
                                    exact ez_Wp_at (ih.2 h124 x10 x55 x61 x136 x138 p2 o2 m2 (ez_I h124 71 61).toInt.toNat (mz - 1) F130 (by omega) ((fun q => by exfalso; omega)) (⟨fun q => by exfalso; omega, fun q => (A_sp.1 (by omega) (by omega)).trans (upP_n (by rw [stP_m (k := (x10.toInt.toNat - 257)) sdx10 (by omega) rfl, smU_2 (q2 := q13 + x38.toInt.toNat) (by omega) (by omega) (by omega) sdx61 (.inl (by omega))]; rfl))⟩) ((fun q => by exfalso; omega)) (by omega)) rfl
                                  · have c137 : ¬ (((ez_I h124 71 61)).toInt ≠ 0) := c137
                                    exfalso; omega
                          · have snx61 : sdR (tB (ez_I h40 72)) (ez_I h40 71 6).toInt.toNat (ez_I h40 71 59).toInt.toNat (nL (ez_I h40 121)) x57.toInt.toNat = none := kb72
                            rw [(show ez_I h40 72 = ez_I h 72 from zW_fn F50 72 x60_13 x60_3), (show ez_I h40 71 6 = ez_I h 71 6 from zW_f F50 x60_12 x60_1), (show ez_I h40 121 = ez_I h 121 from zW_fn F50 121 x60_20 x60_21), show x57.toInt.toNat = 32 by omega, show (ez_I h40 71 59).toInt.toNat = q13 + x38.toInt.toNat by omega] at snx61
                            refine gw_st rfl rfl rfl ?_
                            show ez_gw _ _ _ _ _ _ _ _ [some (.ref 71), some (.int x10), some (.int x55), some (.int x61), l4, l5] _ _ _
                            refine gw_ld rfl rfl ?_
                            refine z_gI2 (by decide) (zT S65 (by decide) rfl) (rfl) ?_
                            refine z_b1 (fun c141 => ?_) (fun c141 => ?_)
                            · have c141 : ((ez_I h59 71 61)).toInt ≠ 0 := c141
                              refine gw_skip _ ?_
                              refine gw_ld rfl rfl ?_
                              refine z_gI2 (by decide) (zT S65 (by decide) rfl) (rfl) ?_
                              refine z_b1 (fun c142 => ?_) (fun c142 => ?_)
                              · have c142 : ((ez_I h59 71 61)).toInt ≤ 0 := c142
                                exfalso; omega
                              · have c142 : ¬ (((ez_I h59 71 61)).toInt ≤ 0) := c142
                                refine z_C (m := 0) rfl rfl (fun x143 ex143 => ?_)
                                refine z_go ?_
                                refine gw_skip _ ?_
                                refine gw_st rfl rfl rfl ?_
                                show ez_gw _ _ _ _ _ _ _ _ [some (.ref 71), some (.int x10), some (.int x55), some (.int x61), some (.int x143), l5] _ _ _
                                refine gw_ld rfl rfl ?_
                                refine z_gI2 (by decide) (zT S65 (by decide) rfl) (rfl) ?_
                                refine z_b1 (fun c144 => ?_) (fun c144 => ?_)
                                · have c144 : ((ez_I h59 71 61)).toInt ≠ 0 := c144
                                  refine gw_skip _ ?_
                                  refine z_C (m := 0) rfl rfl (fun x145 ex145 => ?_)
                                  refine gw_st rfl rfl rfl ?_
                                  show ez_gw _ _ _ _ _ _ _ _ [some (.ref 71), some (.int x10), some (.int x55), some (.int x61), some (.int x143), some (.int x145)] _ _ _
                                  have t146 := congrArg Int32.toInt (f69)
                                  exact ez_Wp_at (ih.2 h59 x10 x55 x61 x143 x145 p2 o2 m2 (ez_I h59 71 61).toInt.toNat (mz - 1) F66 (by omega) ((fun q => by exfalso; omega)) (⟨fun q => by exfalso; omega, fun q => (A_sp.1 (by omega) (by omega)).trans (upP_n (by rw [stP_m (k := (x10.toInt.toNat - 257)) sdx10 (by omega) rfl, smU_1 (q2 := q13 + x38.toInt.toNat) (by omega) (by omega) (by omega) snx61]; rfl))⟩) ((fun q => by exfalso; omega)) (by omega)) rfl
                                · have c144 : ¬ (((ez_I h59 71 61)).toInt ≠ 0) := c144
                                  exfalso; omega
                            · have c141 : ¬ (((ez_I h59 71 61)).toInt ≠ 0) := c141
                              exfalso; omega
                        · have c56 : ¬ (((ez_I h40 71 61)).toInt ≤ 0) := c56
                          exfalso; omega
                      · have kf48 := k44 (by omega) (by omega)
                        clear k43 k44 k45
                        refine z_addW (fun x147 ex147 => ?_)
                        have rx147 := z_rng x147
                        refine gw_st rfl rfl rfl ?_
                        show ez_gw _ _ _ _ _ _ _ _ [some (.ref 71), some (.int x10), some (.int x147), l3, l4, l5] _ _ _
                        refine gw_ld rfl rfl ?_
                        refine z_gI2 (by decide) (zT S49 (by decide) rfl) (rfl) ?_
                        refine z_b1 (fun c148 => ?_) (fun c148 => ?_)
                        · have c148 : ((ez_I h40 71 61)).toInt ≤ 0 := c148
                          exfalso; omega
                        · have c148 : ¬ (((ez_I h40 71 61)).toInt ≤ 0) := c148
                          refine z_C (m := 0) rfl rfl (fun x149 ex149 => ?_)
                          refine z_go ?_
                          refine gw_skip _ ?_
                          refine gw_st rfl rfl rfl ?_
                          show ez_gw _ _ _ _ _ _ _ _ [some (.ref 71), some (.int x10), some (.int x147), some (.int x149), l4, l5] _ _ _
                          refine gw_ld rfl rfl ?_
                          refine z_gI2 (by decide) (zT S49 (by decide) rfl) (rfl) ?_
                          refine z_b1 (fun c150 => ?_) (fun c150 => ?_)
                          · have c150 : ((ez_I h40 71 61)).toInt ≠ 0 := c150
                            refine gw_skip _ ?_
                            refine gw_ld rfl rfl ?_
                            refine z_gI2 (by decide) (zT S49 (by decide) rfl) (rfl) ?_
                            refine z_b1 (fun c151 => ?_) (fun c151 => ?_)
                            · have c151 : ((ez_I h40 71 61)).toInt ≤ 0 := c151
                              exfalso; omega
                            · have c151 : ¬ (((ez_I h40 71 61)).toInt ≤ 0) := c151
                              refine z_C (m := 0) rfl rfl (fun x152 ex152 => ?_)
                              refine z_go ?_
                              refine gw_skip _ ?_
                              refine gw_st rfl rfl rfl ?_
                              show ez_gw _ _ _ _ _ _ _ _ [some (.ref 71), some (.int x10), some (.int x147), some (.int x149), some (.int x152), l5] _ _ _
                              refine gw_ld rfl rfl ?_
                              refine z_gI2 (by decide) (zT S49 (by decide) rfl) (rfl) ?_
                              refine z_b1 (fun c153 => ?_) (fun c153 => ?_)
                              · have c153 : ((ez_I h40 71 61)).toInt ≠ 0 := c153
                                refine gw_skip _ ?_
                                refine z_C (m := 0) rfl rfl (fun x154 ex154 => ?_)
                                refine gw_st rfl rfl rfl ?_
                                show ez_gw _ _ _ _ _ _ _ _ [some (.ref 71), some (.int x10), some (.int x147), some (.int x149), some (.int x152), some (.int x154)] _ _ _
                                have t155 := congrArg Int32.toInt (f53)
                                exact ez_Wp_at (ih.2 h40 x10 x147 x149 x152 x154 p2 o2 m2 (ez_I h40 71 61).toInt.toNat (mz - 1) F50 (by omega) ((fun q => by exfalso; omega)) (⟨fun q => by exfalso; omega, fun q => (A_sp.1 (by omega) (by omega)).trans (upP_n (by rw [stP_m (k := (x10.toInt.toNat - 257)) sdx10 (by omega) rfl, smU_n (.inr (by omega))]; rfl))⟩) ((fun q => by exfalso; omega)) (by omega)) rfl
                              · have c153 : ¬ (((ez_I h40 71 61)).toInt ≠ 0) := c153
                                exfalso; omega
                          · have c150 : ¬ (((ez_I h40 71 61)).toInt ≠ 0) := c150
                            exfalso; omega
                    · have c32 : ¬ (((ez_I h8 71 61)).toInt ≤ 0) := c32
                      exfalso; omega
                · have c28 : ¬ (x10.toInt ≤ x27.toInt) := c28
                  refine gw_ld rfl rfl ?_
                  refine z_C (m := 7) rfl rfl (fun x156 ex156 => ?_)
                  have t157 := congrArg Int32.toInt (f18)
                  refine z_cl rfl rfl rfl rfl rfl rfl rfl rfl rfl rfl rfl (zT S14 (by decide) rfl) ?_
                  refine d_wrong (n := x156) S14 (fun h158 F159 k160 k161 => ?_)
                  have kw162 := k160 (by omega)
                  clear k160 k161
                  have S163 := zW_sh F159 S14
                  have F164 := zW_tr F15 (zW_mono F159 (x60_10) (x60_19) (x60_6))
                  have f165 : ez_I h158 71 59 = (ez_I h8 71 59) := (zW_f F159 (fun c => c) (by decide)).trans (rfl)
                  have r166 := z_rng (ez_I h158 71 61)
                  have f167 : ez_I h158 71 60 = (ez_I h2 71 60) := (zW_f F159 (fun c => c) (by decide)).trans (f18)
                  have A168 : imP fl (oM (ez_I h158 76) o2 m2) := by rw [zW_fn F159 76 (fun c => c) (x60_11)]; exact A19
                  clear A19
                  refine gw_ld rfl rfl ?_
                  refine z_C (m := 257) rfl rfl (fun x169 ex169 => ?_)
                  refine z_b2 (fun c170 => ?_) (fun c170 => ?_)
                  · have c170 : x10.toInt < x169.toInt := c170
                    exfalso; omega
                  · have c170 : ¬ (x10.toInt < x169.toInt) := c170
                    refine gw_ld rfl rfl ?_
                    refine z_gI2 (by decide) (zT S163 (by decide) rfl) (rfl) ?_
                    refine z_b1 (fun c171 => ?_) (fun c171 => ?_)
                    · have c171 : ((ez_I h158 71 61)).toInt ≤ 0 := c171
                      exfalso; omega
                    · have c171 : ¬ (((ez_I h158 71 61)).toInt ≤ 0) := c171
                      refine z_go ?_
                      have t172 := congrArg Int32.toInt (f165)
                      have t173 := congrArg Int32.toInt (f167)
                      exact ih.1 h158 x10 (l2) (l3) (l4) (l5) p2 o2 m2 (ez_I h158 71 61).toInt.toNat (mz - 1) F164 (by omega) ((fun q => by exfalso; omega)) (⟨fun q => by exfalso; omega, fun q => by exfalso; omega, fun q => (A_sp.1 (by omega) (by omega)).trans (upP_n (by rw [stP_m (k := x10.toInt.toNat - 257) sdx10 (by omega) rfl, smU_n (.inl (by omega))]; rfl))⟩) ((fun q => by exfalso; omega)) (by omega)
              · have c26 : ¬ (x25.toInt ≤ x10.toInt) := c26
                refine gw_ld rfl rfl ?_
                refine gw_ld rfl rfl ?_
                have t174 := congrArg Int32.toInt (f18)
                refine z_cl rfl rfl rfl rfl rfl rfl rfl rfl rfl rfl rfl (zT S14 (by decide) rfl) ?_
                have A_o2 := A19 (by omega)
                refine d_give2 (v := x10) S14 (by omega) (fun h175 F176 k177 k178 => ?_)
                have S182 := zW_sh F176 S14
                have F183 := zW_tr F15 (zW_mono F176 (x60_8) (x60_24) (x60_6))
                have f184 : ez_I h175 71 59 = (ez_I h8 71 59) := (zW_f F176 (by decide) (by decide)).trans (rfl)
                have r185 := z_rng (ez_I h175 71 61)
                have r186 := z_rng (ez_I h175 71 60)
                by_cases hg179 : (ez_I h8 71 60).toInt = 6000
                · have kk180 := k177 hg179
                  have kk9 := kk180.1 (by omega)
                  have kkg := kk180.2.2.1
                  clear kk180 k177 k178
                  refine gw_ld rfl rfl ?_
                  refine z_C (m := 285) rfl rfl (fun x187 ex187 => ?_)
                  refine z_b2 (fun c188 => ?_) (fun c188 => ?_)
                  · have c188 : x10.toInt ≤ x187.toInt := c188
                    refine gw_skip _ ?_
                    refine gw_ld rfl rfl ?_
                    refine z_C (m := 257) rfl rfl (fun x189 ex189 => ?_)
                    refine z_b2 (fun c190 => ?_) (fun c190 => ?_)
                    · have c190 : x10.toInt < x189.toInt := c190
                      have t191 := congrArg Int32.toInt (f184)
                      exact ih.1 h175 x10 (l2) (l3) (l4) (l5) q13 (putT o2 m2 (x10.toInt.toNat : Nat)) (m2 + 1) (ez_I h175 71 61).toInt.toNat (mz - 1) F183 (by omega) ((fun q => by exfalso; omega)) (⟨fun q => by exfalso; omega, fun q => by exfalso; omega, fun q => (A_sp.1 (by omega) (by omega)).trans (upP_n (by rw [stP_b sdx10 (by omega), if_pos (by omega)]))⟩) ((fun q => by exfalso; omega)) (by omega)
                    · have c190 : ¬ (x10.toInt < x189.toInt) := c190
                      exfalso; omega
                  · have c188 : ¬ (x10.toInt ≤ x187.toInt) := c188
                    exfalso; omega
                · have kk180 := k178 (by omega)
                  obtain ⟨kA, kB, kC, kD⟩ := kk180
                  rw [show (ez_I h8 71 60).toInt.toNat = m2 by omega] at kC kD
                  have A181 : oM (ez_I h175 76) (putT o2 m2 (x10.toInt.toNat : Nat)) (m2 + 1) := oM_put A_o2 (by rw [kC]; omega) kD rfl
                  clear k177 k178
                  refine gw_ld rfl rfl ?_
                  refine z_C (m := 285) rfl rfl (fun x192 ex192 => ?_)
                  refine z_b2 (fun c193 => ?_) (fun c193 => ?_)
                  · have c193 : x10.toInt ≤ x192.toInt := c193
                    refine gw_skip _ ?_
                    refine gw_ld rfl rfl ?_
                    refine z_C (m := 257) rfl rfl (fun x194 ex194 => ?_)
                    refine z_b2 (fun c195 => ?_) (fun c195 => ?_)
                    · have c195 : x10.toInt < x194.toInt := c195
                      have t196 := congrArg Int32.toInt (f184)
                      exact ih.1 h175 x10 (l2) (l3) (l4) (l5) q13 (putT o2 m2 (x10.toInt.toNat : Nat)) (m2 + 1) (ez_I h175 71 61).toInt.toNat (mz - 1) F183 (by omega) ((fun q => ⟨by omega, by omega, fun _ => by omega⟩)) (⟨fun _ _ => (A_sp.1 (by omega) (by omega)).trans (upP_g (r := (q13, (putT o2 m2 (x10.toInt.toNat : Nat)), (m2 + 1))) (by rw [stP_b sdx10 (by omega), if_neg (by omega)])), fun _ q => by exfalso; omega, fun q => by exfalso; omega⟩) ((fun _ => A181)) (by omega)
                    · have c195 : ¬ (x10.toInt < x194.toInt) := c195
                      exfalso; omega
                  · have c193 : ¬ (x10.toInt ≤ x192.toInt) := c193
                    exfalso; omega
            · have c24 : ¬ (((ez_I h8 71 61)).toInt ≤ 0) := c24
              exfalso; omega
          · have snx10 : sdR (tB (ez_I h2 72)) (ez_I h2 71 6).toInt.toNat (ez_I h2 71 59).toInt.toNat (nL (ez_I h2 120)) x7.toInt.toNat = none := kb21
            rw [(show ez_I h2 72 = ez_I h 72 from zW_fn F 72 x60_13 x60_3), (show ez_I h2 71 6 = ez_I h 71 6 from zW_f F x60_12 x60_1), (show ez_I h2 120 = ez_I h 120 from zW_fn F 120 x60_14 x60_15), show x7.toInt.toNat = 288 by omega, show (ez_I h2 71 59).toInt.toNat = p2 by omega] at snx10
            refine gw_st rfl rfl rfl ?_
            show ez_gw _ _ _ _ _ _ _ _ [some (.ref 71), some (.int x10), l2, l3, l4, l5] _ _ _
            refine gw_ld rfl rfl ?_
            refine z_gI2 (by decide) (zT S14 (by decide) rfl) (rfl) ?_
            refine z_b1 (fun c197 => ?_) (fun c197 => ?_)
            · have c197 : ((ez_I h8 71 61)).toInt ≤ 0 := c197
              exfalso; omega
            · have c197 : ¬ (((ez_I h8 71 61)).toInt ≤ 0) := c197
              refine z_rv ?_
              have t198 := congrArg Int32.toInt (f18)
              exact K _ F15 (.inr ⟨by omega, (A_sp.1 (by omega) (by omega)).trans (upP_n (by unfold stP; rw [snx10]))⟩) (by omega) (by omega)
    · skip
      have w_sy := z_rng sy
      have w_ln := z_rng ln
      have w_dz := z_rng dz
      have w_bk := z_rng bk
      have w_i := z_rng i
      have S2 := zW_sh F S
      apply ez_Wp_in
      show ez_gw _ _ _ _ _ _ (cz_59) _ _ _ _ _
      refine gw_skip _ ?_
      have r199 := z_rng (ez_I h2 71 59)
      have r200 := z_rng (ez_I h2 71 61)
      have r201 := z_rng (ez_I h2 71 60)
      refine gw_ld rfl rfl ?_
      refine gw_ld rfl rfl ?_
      refine z_b2 (fun c202 => ?_) (fun c202 => ?_)
      · have c202 : ln.toInt ≤ i.toInt := c202
        refine gw_skip _ ?_
        refine z_go ?_
        exact ih.1 h2 sy (some (.int ln)) (some (.int dz)) (some (.int bk)) (some (.int i)) p2 o2 m2 (ez_I h2 71 61).toInt.toNat mz F (by omega) ((fun q => by obtain ⟨j1, j2, j3, j4, j5, j6, j7⟩ := A_im (by omega); exact ⟨by omega, by omega, fun _ => by omega⟩)) (⟨fun q _ => by obtain ⟨j1, j2, j3, j4, j5, j6, j7⟩ := A_im (by omega); exact (A_sp.1 (by omega)).trans (by rw [show ln.toInt.toNat - i.toInt.toNat = 0 by omega]; rfl), fun _ q => by exfalso; omega, fun q => A_sp.2 (by omega)⟩) ((fun q => A_or (by omega))) (by omega)
      · have c202 : ¬ (ln.toInt ≤ i.toInt) := c202
        refine gw_ld rfl rfl ?_
        refine z_gI2 (by decide) (zT S2 (by decide) rfl) (rfl) ?_
        refine z_b1 (fun c203 => ?_) (fun c203 => ?_)
        · have c203 : ((ez_I h2 71 61)).toInt ≠ 0 := c203
          refine gw_skip _ ?_
          refine z_go ?_
          exact ih.1 h2 sy (some (.int ln)) (some (.int dz)) (some (.int bk)) (some (.int i)) p2 o2 m2 (ez_I h2 71 61).toInt.toNat mz F (by omega) ((fun q => by obtain ⟨j1, j2, j3, j4, j5, j6, j7⟩ := A_im (by omega); exact ⟨by omega, by omega, fun _ => by omega⟩)) (⟨fun q _ => by obtain ⟨j1, j2, j3, j4, j5, j6, j7⟩ := A_im (by omega); exact (A_sp.1 (by omega)).trans (by rw [show ln.toInt.toNat - i.toInt.toNat = 0 by omega]; rfl), fun _ q => by exfalso; omega, fun q => A_sp.2 (by omega)⟩) ((fun q => A_or (by omega))) (by omega)
        · have c203 : ¬ (((ez_I h2 71 61)).toInt ≠ 0) := c203
          obtain ⟨j1, j2, j3, j4, j5, j6, j7⟩ := A_im (by omega)
          refine gw_ld rfl rfl ?_
          refine gw_ld rfl rfl ?_
          refine z_gR (q := 76) (zT S2 (by decide) rfl) (zRf S2 (by decide) (by decide) rfl) (by decide) ?_
          refine gw_ld rfl rfl ?_
          refine z_gI2 (by decide) (zT S2 (by decide) rfl) (rfl) ?_
          refine z_C (m := 6000) rfl rfl (fun x204 ex204 => ?_)
          refine z_b2 (fun c205 => ?_) (fun c205 => ?_)
          · have c205 : ((ez_I h2 71 60)).toInt ≠ x204.toInt := c205
            refine gw_skip _ ?_
            refine gw_ld rfl rfl ?_
            refine z_gI2 (by decide) (zT S2 (by decide) rfl) (rfl) ?_
            refine gw_ld rfl rfl ?_
            refine z_sub (by omega) (fun x206 ex206 => ?_)
            refine z_ba (n := 6000) (zT S2 (by decide) rfl) (zN S2 (by decide) rfl) (by omega) ?_
            generalize ex207 : ez_I h2 76 x206.toInt.toNat = x207
            have rx207 := z_rng x207
            have yo := A_or (by omega) (m2 - bk.toInt.toNat) (by omega)
            rw [show m2 - bk.toInt.toNat = x206.toInt.toNat by omega, ex207] at yo
            rw [show x206.toInt.toNat = m2 - bk.toInt.toNat by omega] at yo
            refine z_cl rfl rfl rfl rfl rfl rfl rfl rfl rfl rfl rfl (zT S2 (by decide) rfl) ?_
            have A_o2 := A_or (by omega)
            refine d_give2 (v := x207) S2 (by omega) (fun h208 F209 k210 k211 => ?_)
            have S215 := zW_sh F209 S2
            have F216 := zW_tr F (zW_mono F209 (x60_8) (x60_24) (x60_6))
            have f217 : ez_I h208 71 59 = (ez_I h2 71 59) := (zW_f F209 (by decide) (by decide)).trans (rfl)
            have r218 := z_rng (ez_I h208 71 61)
            have r219 := z_rng (ez_I h208 71 60)
            by_cases hg212 : (ez_I h2 71 60).toInt = 6000
            · have kk213 := k210 hg212
              have kk9 := kk213.1 (by omega)
              have kkg := kk213.2.2.1
              clear kk213 k210 k211
              refine z_inc rfl (by rw [show (1 : Int32).toInt = 1 from rfl]; omega) (fun x220 ex220 => ?_)
              rw [show (1 : Int32).toInt = 1 from rfl] at ex220
              show ez_gw _ _ _ _ _ _ _ _ [some (.ref 71), some (.int sy), some (.int ln), some (.int dz), some (.int bk), some (.int x220)] _ _ _
              refine z_go ?_
              have t221 := congrArg Int32.toInt (f217)
              exact ih.2 h208 sy ln dz bk x220 p2 (putT o2 m2 (o2 (m2 - bk.toInt.toNat))) (m2 + 1) (ez_I h208 71 61).toInt.toNat mz F216 (by omega) ((fun q => by exfalso; omega)) (⟨fun q => by exfalso; omega, fun q => (A_sp.1 (by omega)).trans (by rw [cpB_n (by omega) (by omega)]; rfl)⟩) ((fun q => by exfalso; omega)) (by omega)
            · have kk213 := k211 (by omega)
              obtain ⟨kA, kB, kC, kD⟩ := kk213
              rw [show (ez_I h2 71 60).toInt.toNat = m2 by omega] at kC kD
              have A214 : oM (ez_I h208 76) (putT o2 m2 (o2 (m2 - bk.toInt.toNat))) (m2 + 1) := oM_put A_o2 (by rw [kC]; exact yo) kD rfl
              clear k210 k211
              refine z_inc rfl (by rw [show (1 : Int32).toInt = 1 from rfl]; omega) (fun x222 ex222 => ?_)
              rw [show (1 : Int32).toInt = 1 from rfl] at ex222
              show ez_gw _ _ _ _ _ _ _ _ [some (.ref 71), some (.int sy), some (.int ln), some (.int dz), some (.int bk), some (.int x222)] _ _ _
              refine z_go ?_
              have t223 := congrArg Int32.toInt (f217)
              exact ih.2 h208 sy ln dz bk x222 p2 (putT o2 m2 (o2 (m2 - bk.toInt.toNat))) (m2 + 1) (ez_I h208 71 61).toInt.toNat mz F216 (by omega) ((fun q => by omega)) (⟨fun q => (A_sp.1 (by omega)).trans (congrArg (upC (tB (ez_I h 72)) (ez_I h 71 6).toInt.toNat (nL (ez_I h 120)) 288 (nL (ez_I h 121)) 32 p2) (cpB_y (by omega) (by omega) rfl)), fun q => by exfalso; omega⟩) ((fun _ => A214)) (by omega)
          · have c205 : ¬ (((ez_I h2 71 60)).toInt ≠ x204.toInt) := c205
            refine z_C (m := 0) rfl rfl (fun x224 ex224 => ?_)
            refine z_go ?_
            refine gw_skip _ ?_
            refine z_ba (n := 6000) (zT S2 (by decide) rfl) (zN S2 (by decide) rfl) (by omega) ?_
            generalize ex225 : ez_I h2 76 x224.toInt.toNat = x225
            have rx225 := z_rng x225
            skip
            refine z_cl rfl rfl rfl rfl rfl rfl rfl rfl rfl rfl rfl (zT S2 (by decide) rfl) ?_
            have A_o2 := A_or (by omega)
            refine d_give2 (v := x225) S2 (by omega) (fun h226 F227 k228 k229 => ?_)
            have S233 := zW_sh F227 S2
            have F234 := zW_tr F (zW_mono F227 (x60_8) (x60_24) (x60_6))
            have f235 : ez_I h226 71 59 = (ez_I h2 71 59) := (zW_f F227 (by decide) (by decide)).trans (rfl)
            have r236 := z_rng (ez_I h226 71 61)
            have r237 := z_rng (ez_I h226 71 60)
            by_cases hg230 : (ez_I h2 71 60).toInt = 6000
            · have kk231 := k228 hg230
              have kk9 := kk231.1 (by omega)
              have kkg := kk231.2.2.1
              clear kk231 k228 k229
              refine z_inc rfl (by rw [show (1 : Int32).toInt = 1 from rfl]; omega) (fun x238 ex238 => ?_)
              rw [show (1 : Int32).toInt = 1 from rfl] at ex238
              show ez_gw _ _ _ _ _ _ _ _ [some (.ref 71), some (.int sy), some (.int ln), some (.int dz), some (.int bk), some (.int x238)] _ _ _
              refine z_go ?_
              have t239 := congrArg Int32.toInt (f235)
              exact ih.2 h226 sy ln dz bk x238 p2 (putT o2 m2 (o2 (m2 - bk.toInt.toNat))) (m2 + 1) (ez_I h226 71 61).toInt.toNat mz F234 (by omega) ((fun q => by exfalso; omega)) (⟨fun q => by exfalso; omega, fun q => (A_sp.1 (by omega)).trans (by rw [cpB_n (by omega) (by omega)]; rfl)⟩) ((fun q => by exfalso; omega)) (by omega)
            · have kk231 := k229 (by omega)
              obtain ⟨kA, kB, kC, kD⟩ := kk231
              rw [show (ez_I h2 71 60).toInt.toNat = m2 by omega] at kC kD
              have A232 : oM (ez_I h226 76) (putT o2 m2 (o2 (m2 - bk.toInt.toNat))) (m2 + 1) := oM_put A_o2 (by rw [kC]; exfalso; omega) kD rfl
              clear k228 k229
              refine z_inc rfl (by rw [show (1 : Int32).toInt = 1 from rfl]; omega) (fun x240 ex240 => ?_)
              rw [show (1 : Int32).toInt = 1 from rfl] at ex240
              show ez_gw _ _ _ _ _ _ _ _ [some (.ref 71), some (.int sy), some (.int ln), some (.int dz), some (.int bk), some (.int x240)] _ _ _
              refine z_go ?_
              have t241 := congrArg Int32.toInt (f235)
              exact ih.2 h226 sy ln dz bk x240 p2 (putT o2 m2 (o2 (m2 - bk.toInt.toNat))) (m2 + 1) (ez_I h226 71 61).toInt.toNat mz F234 (by omega) ((fun q => by omega)) (⟨fun q => (A_sp.1 (by omega)).trans (congrArg (upC (tB (ez_I h 72)) (ez_I h 71 6).toInt.toNat (nL (ez_I h 120)) 288 (nL (ez_I h 121)) 32 p2) (cpB_y (by omega) (by omega) rfl)), fun q => by exfalso; omega⟩) ((fun _ => A232)) (by omega)
set_option maxRecDepth 4000 in
set_option maxHeartbeats 2000000 in
theorem d_codes {E : Nat → Nat × (Nat → Int32)} {d : Nat} {Q : ez_Q} {h : ez_H} {o : Nat → Int} (S : zSh h) (hz : 0 ≤ (ez_I h 71 6).toInt ∧ (ez_I h 71 6).toInt ≤ 6000) (hp : 0 ≤ (ez_I h 71 59).toInt ∧ (ez_I h 71 59).toInt ≤ 8 * (ez_I h 71 6).toInt) (hf : (ez_I h 71 61).toInt = 0) (hg : 0 ≤ (ez_I h 71 60).toInt ∧ (ez_I h 71 60).toInt ≤ 6000) (ho : oM (ez_I h 76) o (ez_I h 71 60).toInt.toNat) (t92 : ctI (ez_I h 92) LBf 29) (t93 : ctI (ez_I h 93) LEf 29) (t94 : ctI (ez_I h 94) DBf 30) (t95 : ctI (ez_I h 95) DEf 30) (hL1 : aR (ez_I h 120) 288 0 15) (ho1 : plN (nL (ez_I h 120)) 288 16 = 1 → ctN (nL (ez_I h 120)) 1 288 = 1) (hLD : aR (ez_I h 121) 32 0 15) (ho2 : plN (nL (ez_I h 121)) 32 16 = 1 → ctN (nL (ez_I h 121)) 1 32 = 1) (K : ∀ h2, zW (fun q k => q = 71 ∧ k = 59 ∨ q = 71 ∧ k = 61 ∨ q = 71 ∧ k = 60) (fun q => q = 76 ∨ q = 115) (fun _ => False) h h2 → (((ez_I h2 71 61).toInt = 0 ∧ ∃ (q : Nat) (o2 : Nat → Int) (m2 : Nat), upP (tB (ez_I h 72)) (ez_I h 71 6).toInt.toNat (nL (ez_I h 120)) 288 (nL (ez_I h 121)) 32 (8 * (ez_I h 71 6).toInt.toNat) (ez_I h 71 59).toInt.toNat o (ez_I h 71 60).toInt.toNat = some (q, o2, m2) ∧ (ez_I h2 71 59).toInt = q ∧ (ez_I h2 71 60).toInt = m2 ∧ oM (ez_I h2 76) o2 m2) ∨ (1 ≤ (ez_I h2 71 61).toInt ∧ upP (tB (ez_I h 72)) (ez_I h 71 6).toInt.toNat (nL (ez_I h 120)) 288 (nL (ez_I h 121)) 32 (8 * (ez_I h 71 6).toInt.toNat) (ez_I h 71 59).toInt.toNat o (ez_I h 71 60).toInt.toNat = none)) → (0 ≤ (ez_I h2 71 59).toInt ∧ (ez_I h2 71 59).toInt ≤ 8 * (ez_I h 71 6).toInt) → (0 ≤ (ez_I h2 71 60).toInt ∧ (ez_I h2 71 60).toInt ≤ 6000) → Q (.inl none) h2) : pw E (d + 2) 59 0 [some (.ref 71), none, none, none, none, none] [] h Q := by
  have F := zW_refl (fun q k => q = 71 ∧ k = 59 ∨ q = 71 ∧ k = 61 ∨ q = 71 ∧ k = 60) (fun q => q = 76 ∨ q = 115) (fun _ => False) h
  apply ez_Wp_in
  show ez_gw _ _ _ _ _ _ (cz_59) _ _ _ _ _
  refine gw_skip _ ?_
  have r1 := z_rng (ez_I h 71 59)
  have r2 := z_rng (ez_I h 71 61)
  have r3 := z_rng (ez_I h 71 60)
  refine z_C (m := 0) rfl rfl (fun x4 ex4 => ?_)
  refine gw_st rfl rfl rfl ?_
  show ez_gw _ _ _ _ _ _ _ _ [some (.ref 71), some (.int x4), none, none, none, none] _ _ _
  exact ez_Wp_at ((d_codes_L0 (o := o) S hz hp hf hg ho t92 t93 t94 t95 hL1 ho1 hLD ho2 K (((200000 * (50000 : Int))).toNat + 1)).1 h x4 (none) (none) (none) (none) (ez_I h 71 59).toInt.toNat o (ez_I h 71 60).toInt.toNat (ez_I h 71 61).toInt.toNat 50000 F (by omega) ((fun q => ⟨by omega, by omega, fun _ => by omega⟩)) (⟨fun _ _ => rfl, fun _ q => by exfalso; omega, fun q => by exfalso; omega⟩) ((fun _ => ho)) (by omega)) rfl
