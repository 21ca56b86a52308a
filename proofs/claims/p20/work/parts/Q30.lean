/-! PRINTED by wip/pack: the class reads: stored blocks, the alphabet, the row -/
theorem x56_0 : ¬ (2 = 51) := by omega
theorem x56_1 : ¬ (2 = 69 ∧ 1 = 2 ∨ 2 = 69 ∧ 1 = 3 ∨ 2 = 69 ∧ 1 = 6 ∨ 2 = 50 ∧ 1 = 1) := by omega
theorem x56_2 : ¬ (3 = 51) := by omega
theorem x56_3 : ∀ k : Nat, ¬ (3 = 69 ∧ k = 2 ∨ 3 = 69 ∧ k = 3 ∨ 3 = 69 ∧ k = 6 ∨ 3 = 50 ∧ k = 1) := fun k c => by omega
theorem x56_4 : ∀ q k : Nat, (q = 69 ∧ k = 2 ∨ q = 69 ∧ k = 3 ∨ q = 69 ∧ k = 6) → (q = 69 ∧ k = 2 ∨ q = 69 ∧ k = 3 ∨ q = 69 ∧ k = 6 ∨ q = 50 ∧ k = 1) := fun q k hk => hk.elim (fun g => (.inl g)) (fun hk => hk.elim (fun g => (.inr (.inl g))) (fun hk => (.inr (.inr (.inl hk)))))
theorem x56_5 : ∀ q : Nat, (False) → (q = 51) := fun q hk => hk.elim
theorem x56_6 : ∀ q : Nat, (False) → (False) := fun q hk => hk.elim
theorem x56_7 : ∀ k : Nat, ¬ (51 = 69 ∧ k = 2 ∨ 51 = 69 ∧ k = 3 ∨ 51 = 69 ∧ k = 6) := fun k c => by omega
theorem x56_8 : ∀ q k : Nat, (q = 50 ∧ k = 1) → (q = 69 ∧ k = 2 ∨ q = 69 ∧ k = 3 ∨ q = 69 ∧ k = 6 ∨ q = 50 ∧ k = 1) := fun q k hk => (.inr (.inr (.inr hk)))
theorem x56_9 : ∀ q : Nat, (q = 51) → (q = 51) := fun q hk => hk
set_option maxRecDepth 4000 in
set_option maxHeartbeats 2000000 in
theorem c_rStored_L0 {E : Nat → Nat × (Nat → Int32)} {d : Nat} {Q : ez_Q} {h : ez_H} {o : Nat → Int} (S : zSh h) (hM : zMem h) (hz : 0 ≤ (ez_I h 2 1).toInt ∧ (ez_I h 2 1).toInt ≤ 6000) (hb : aR (ez_I h 3) (ez_I h 2 1).toInt.toNat 0 255) (hp : 0 ≤ (ez_I h 69 6).toInt ∧ (ez_I h 69 6).toInt ≤ 8 * (ez_I h 2 1).toInt) (hm : 0 ≤ (ez_I h 50 1).toInt ∧ (ez_I h 50 1).toInt ≤ 6000) (ho : oR (ez_I h 51) o (ez_I h 50 1).toInt.toNat) (Ke : stS (tI (ez_I h 3)) (ez_I h 2 1).toInt.toNat (ez_I h 69 6).toInt.toNat o (ez_I h 50 1).toInt.toNat = none → ∀ h2, zW (fun q k => q = 69 ∧ k = 2 ∨ q = 69 ∧ k = 3 ∨ q = 69 ∧ k = 6 ∨ q = 50 ∧ k = 1) (fun q => q = 51) (fun _ => False) h h2 → Q (.inr 2) (ez_bump h2)) (K : ∀ h2, zW (fun q k => q = 69 ∧ k = 2 ∨ q = 69 ∧ k = 3 ∨ q = 69 ∧ k = 6 ∨ q = 50 ∧ k = 1) (fun q => q = 51) (fun _ => False) h h2 → ∀ (q : Nat) (o2 : Nat → Int) (m2 : Nat), stS (tI (ez_I h 3)) (ez_I h 2 1).toInt.toNat (ez_I h 69 6).toInt.toNat o (ez_I h 50 1).toInt.toNat = some (q, o2, m2) → (ez_I h2 69 6).toInt = q → (ez_I h2 50 1).toInt = m2 → m2 ≤ 6000 → oR (ez_I h2 51) o2 m2 → Q (.inl none) h2) : ∀ N : Nat, (∀ (h2 : ez_H) (sz : Int32) (tu : Int32) (i : Int32) (p2 : Nat) (o2 : Nat → Int) (m2 : Nat), zW (fun q k => q = 69 ∧ k = 2 ∨ q = 69 ∧ k = 3 ∨ q = 69 ∧ k = 6 ∨ q = 50 ∧ k = 1) (fun q => q = 51) (fun _ => False) h h2 → (0 ≤ i.toInt ∧ i.toInt ≤ sz.toInt ∧ sz.toInt ≤ 65535 ∧ (ez_I h2 69 6).toInt = p2 ∧ (p2 : Int) ≤ 8 * (ez_I h 2 1).toInt ∧ (ez_I h2 50 1).toInt = m2 ∧ m2 ≤ 6000) → (stS (tI (ez_I h 3)) (ez_I h 2 1).toInt.toNat (ez_I h 69 6).toInt.toNat o (ez_I h 50 1).toInt.toNat = cpS (tI (ez_I h 3)) (ez_I h 2 1).toInt.toNat (sz.toInt.toNat - i.toInt.toNat) p2 o2 m2) → (oR (ez_I h2 51) o2 m2) → (100000 - i.toInt) < (N : Int) → pw E (d + 2) 134 46 [some (.ref 69), some (.ref 2), some (.int sz), some (.int tu), some (.int i)] [] h2 Q) := by
  intro N
  induction N with
  | zero => exact fun h2 sz tu i p2 o2 m2 F hinv A_sp A_or hm => absurd hm (by have w_sz := z_rng sz; have w_tu := z_rng tu; have w_i := z_rng i; omega)
  | succ N ih =>
    refine fun h2 sz tu i p2 o2 m2 F hinv A_sp A_or hm => ?_
    · skip
      have w_sz := z_rng sz
      have w_tu := z_rng tu
      have w_i := z_rng i
      have S2 := zW_sh F S
      apply ez_Wp_in
      show ez_gw _ _ _ _ _ _ (cz_134) _ _ _ _ _
      refine gw_skip _ ?_
      have r1 := z_rng (ez_I h2 69 2)
      have r2 := z_rng (ez_I h2 69 3)
      have r3 := z_rng (ez_I h2 69 6)
      have r4 := z_rng (ez_I h2 50 1)
      refine gw_ld rfl rfl ?_
      refine gw_ld rfl rfl ?_
      refine z_b2 (fun c5 => ?_) (fun c5 => ?_)
      · have c5 : sz.toInt ≤ i.toInt := c5
        refine gw_skip _ ?_
        refine z_rv ?_
        have b1 := A_sp
        rw [show sz.toInt.toNat - i.toInt.toNat = 0 by omega] at b1
        exact K _ F p2 o2 m2 b1 (by omega) (by omega) (by omega) A_or
      · have c5 : ¬ (sz.toInt ≤ i.toInt) := c5
        refine gw_ld rfl rfl ?_
        refine gw_ld rfl rfl ?_
        refine gw_ld rfl rfl ?_
        refine z_C (m := 8) rfl rfl (fun x6 ex6 => ?_)
        refine z_cl rfl rfl rfl rfl rfl rfl rfl rfl rfl rfl rfl (zT S2 (by decide) rfl) ?_
        refine c_tb (n := x6) S2 (zMw F hM) (by rw [(show ez_I h2 2 1 = ez_I h 2 1 from zW_f F x56_0 x56_1)]; exact hz) (by rw [(show ez_I h2 2 1 = ez_I h 2 1 from zW_f F x56_0 x56_1), (show ez_I h2 3 = ez_I h 3 from zW_fn F 3 x56_2 x56_3)]; exact hb) (by rw [(show ez_I h2 2 1 = ez_I h 2 1 from zW_f F x56_0 x56_1)]; omega) (by omega) (by rw [(show ez_I h2 2 1 = ez_I h 2 1 from zW_f F x56_0 x56_1)]; exact fun q hh FF => Ke (A_sp.trans (cpS_n (by omega) (.inl (by omega)))) hh (zW_tr F (zW_mono FF x56_4 x56_5 x56_6))) (fun h7 x9 F8 k10 k11 k12 => ?_)
        rw [(show ez_I h2 3 = ez_I h 3 from zW_fn F 3 x56_2 x56_3), show x6.toInt.toNat = 8 by omega, show (ez_I h2 69 6).toInt.toNat = p2 by omega] at k11
        rw [(show ez_I h2 2 1 = ez_I h 2 1 from zW_f F x56_0 x56_1)] at k10
        have rx9 := z_rng x9
        have vlx9 := vB_lt (tI (ez_I h 3)) (p2) (8)
        have vpx9 := Nat.pow_le_pow_right (n := 2) (by decide) (show 8 ≤ 16 by omega)
        have S13 := zW_sh F8 S2
        have F14 := zW_tr F (zW_mono F8 (x56_4) (x56_5) (x56_6))
        have r15 := z_rng (ez_I h7 69 2)
        have r16 := z_rng (ez_I h7 69 3)
        have r17 := z_rng (ez_I h7 69 6)
        have f18 : ez_I h7 50 1 = (ez_I h2 50 1) := (zW_f F8 (fun c => c) (by decide)).trans (rfl)
        have A19 : oR (ez_I h7 51) o2 m2 := by rw [zW_fn F8 51 (fun c => c) (x56_7)]; exact A_or
        have t20 := congrArg Int32.toInt (f18)
        refine z_cl rfl rfl rfl rfl rfl rfl rfl rfl rfl rfl rfl (zT S13 (by decide) rfl) ?_
        refine c_putB (v := x9) S13 (zMw F14 hM) (by omega) (by omega) (fun q hh FF => Ke (A_sp.trans (cpS_n (by omega) (.inr (by omega)))) hh (zW_tr F14 (zW_mono FF x56_4 x56_5 x56_6))) (fun h21 F22 k23 k24 k25 k26 => ?_)
        rw [show (ez_I h7 50 1).toInt.toNat = m2 by omega] at k25 k26
        have A27 : oR (ez_I h21 51) (putT o2 m2 (vB (tI (ez_I h 3)) p2 8 : Nat)) (m2 + 1) := oR_put A19 (by rw [k25]; exact k11) k26 rfl
        have S28 := zW_sh F22 S13
        have F29 := zW_tr F14 (zW_mono F22 (x56_8) (x56_9) (x56_6))
        have f30 : ez_I h21 69 2 = (ez_I h7 69 2) := (zW_f F22 (by decide) (by decide)).trans (rfl)
        have f31 : ez_I h21 69 3 = (ez_I h7 69 3) := (zW_f F22 (by decide) (by decide)).trans (rfl)
        have f32 : ez_I h21 69 6 = (ez_I h7 69 6) := (zW_f F22 (by decide) (by decide)).trans (rfl)
        have r33 := z_rng (ez_I h21 50 1)
        refine z_inc rfl (by rw [show (1 : Int32).toInt = 1 from rfl]; omega) (fun x34 ex34 => ?_)
        rw [show (1 : Int32).toInt = 1 from rfl] at ex34
        show ez_gw _ _ _ _ _ _ _ _ [some (.ref 69), some (.ref 2), some (.int sz), some (.int tu), some (.int x34)] _ _ _
        refine z_go ?_
        have t35 := congrArg Int32.toInt (f30)
        have t36 := congrArg Int32.toInt (f31)
        have t37 := congrArg Int32.toInt (f32)
        exact ih h21 sz tu x34 (p2 + 8) (putT o2 m2 (vB (tI (ez_I h 3)) p2 8 : Nat)) (m2 + 1) F29 (by omega) (A_sp.trans (cpS_y (by omega) (by omega) (by omega))) (A27) (by omega)
set_option maxRecDepth 4000 in
set_option maxHeartbeats 2000000 in
theorem c_rStored {E : Nat → Nat × (Nat → Int32)} {d : Nat} {Q : ez_Q} {h : ez_H} {o : Nat → Int} (S : zSh h) (hM : zMem h) (hz : 0 ≤ (ez_I h 2 1).toInt ∧ (ez_I h 2 1).toInt ≤ 6000) (hb : aR (ez_I h 3) (ez_I h 2 1).toInt.toNat 0 255) (hp : 0 ≤ (ez_I h 69 6).toInt ∧ (ez_I h 69 6).toInt ≤ 8 * (ez_I h 2 1).toInt) (hm : 0 ≤ (ez_I h 50 1).toInt ∧ (ez_I h 50 1).toInt ≤ 6000) (ho : oR (ez_I h 51) o (ez_I h 50 1).toInt.toNat) (Ke : stS (tI (ez_I h 3)) (ez_I h 2 1).toInt.toNat (ez_I h 69 6).toInt.toNat o (ez_I h 50 1).toInt.toNat = none → ∀ h2, zW (fun q k => q = 69 ∧ k = 2 ∨ q = 69 ∧ k = 3 ∨ q = 69 ∧ k = 6 ∨ q = 50 ∧ k = 1) (fun q => q = 51) (fun _ => False) h h2 → Q (.inr 2) (ez_bump h2)) (K : ∀ h2, zW (fun q k => q = 69 ∧ k = 2 ∨ q = 69 ∧ k = 3 ∨ q = 69 ∧ k = 6 ∨ q = 50 ∧ k = 1) (fun q => q = 51) (fun _ => False) h h2 → ∀ (q : Nat) (o2 : Nat → Int) (m2 : Nat), stS (tI (ez_I h 3)) (ez_I h 2 1).toInt.toNat (ez_I h 69 6).toInt.toNat o (ez_I h 50 1).toInt.toNat = some (q, o2, m2) → (ez_I h2 69 6).toInt = q → (ez_I h2 50 1).toInt = m2 → m2 ≤ 6000 → oR (ez_I h2 51) o2 m2 → Q (.inl none) h2) : pw E (d + 2) 134 0 [some (.ref 69), some (.ref 2), none, none, none] [] h Q := by
  have F := zW_refl (fun q k => q = 69 ∧ k = 2 ∨ q = 69 ∧ k = 3 ∨ q = 69 ∧ k = 6 ∨ q = 50 ∧ k = 1) (fun q => q = 51) (fun _ => False) h
  apply ez_Wp_in
  show ez_gw _ _ _ _ _ _ (cz_134) _ _ _ _ _
  refine gw_skip _ ?_
  have r1 := z_rng (ez_I h 69 2)
  have r2 := z_rng (ez_I h 69 3)
  have r3 := z_rng (ez_I h 69 6)
  have r4 := z_rng (ez_I h 50 1)
  refine gw_ld rfl rfl ?_
  refine gw_ld rfl rfl ?_
  refine z_gI2 (by decide) (zT S (by decide) rfl) (rfl) ?_
  refine z_C (m := 7) rfl rfl (fun x5 ex5 => ?_)
  refine z_add (by omega) (fun x6 ex6 => ?_)
  refine z_C (m := -8) rfl rfl (fun x7 ex7 => ?_)
  refine z_and (fun x8 ex8 ux8 wx8 => ?_)
  have rx8 := z_rng x8
  clear ux8 wx8
  have vx8 := n_m8 (by omega) (by omega) ex8
  refine z_pI (zT S (by decide) rfl) (fun h9 e10 => ?_)
  have S11 := zSh_set S e10
  have F12 := zW_setF F e10 (by decide)
  have f13 : ez_I h9 69 2 = (ez_I h 69 2) := (zI_ne e10 (by decide)).trans (rfl)
  have f14 : ez_I h9 69 3 = (ez_I h 69 3) := (zI_ne e10 (by decide)).trans (rfl)
  have f15 : ez_I h9 69 6 = x8 := zI_eq e10
  have f16 : ez_I h9 50 1 = (ez_I h 50 1) := (zI_ne e10 (by decide)).trans (rfl)
  have A17 : oR (ez_I h9 51) o (ez_I h 50 1).toInt.toNat := by rw [zI_fn e10 51 (by decide)]; exact ho
  refine gw_ld rfl rfl ?_
  refine gw_ld rfl rfl ?_
  refine z_C (m := 16) rfl rfl (fun x18 ex18 => ?_)
  have t19 := congrArg Int32.toInt (f13)
  have t20 := congrArg Int32.toInt (f14)
  have t21 := congrArg Int32.toInt (f15)
  have t22 := congrArg Int32.toInt (f16)
  refine z_cl rfl rfl rfl rfl rfl rfl rfl rfl rfl rfl rfl (zT S11 (by decide) rfl) ?_
  refine c_tb (n := x18) S11 (zMw F12 hM) (by rw [(show ez_I h9 2 1 = ez_I h 2 1 from zW_f F12 x56_0 x56_1)]; exact hz) (by rw [(show ez_I h9 2 1 = ez_I h 2 1 from zW_f F12 x56_0 x56_1), (show ez_I h9 3 = ez_I h 3 from zW_fn F12 3 x56_2 x56_3)]; exact hb) (by rw [(show ez_I h9 2 1 = ez_I h 2 1 from zW_f F12 x56_0 x56_1)]; omega) (by omega) (by rw [(show ez_I h9 2 1 = ez_I h 2 1 from zW_f F12 x56_0 x56_1)]; exact fun q hh FF => Ke (stS_o (by omega)) hh (zW_tr F12 (zW_mono FF x56_4 x56_5 x56_6))) (fun h23 x25 F24 k26 k27 k28 => ?_)
  rw [(show ez_I h9 3 = ez_I h 3 from zW_fn F12 3 x56_2 x56_3), show x18.toInt.toNat = 16 by omega, show (ez_I h9 69 6).toInt.toNat = (((ez_I h 69 6).toInt.toNat + 7) / 8 * 8) by omega] at k27
  rw [(show ez_I h9 2 1 = ez_I h 2 1 from zW_f F12 x56_0 x56_1)] at k26
  have rx25 := z_rng x25
  have vlx25 := vB_lt (tI (ez_I h 3)) ((((ez_I h 69 6).toInt.toNat + 7) / 8 * 8)) (16)
  have vpx25 := Nat.pow_le_pow_right (n := 2) (by decide) (show 16 ≤ 16 by omega)
  have S29 := zW_sh F24 S11
  have F30 := zW_tr F12 (zW_mono F24 (x56_4) (x56_5) (x56_6))
  have r31 := z_rng (ez_I h23 69 2)
  have r32 := z_rng (ez_I h23 69 3)
  have r33 := z_rng (ez_I h23 69 6)
  have f34 : ez_I h23 50 1 = (ez_I h 50 1) := (zW_f F24 (fun c => c) (by decide)).trans (f16)
  have A35 : oR (ez_I h23 51) o (ez_I h 50 1).toInt.toNat := by rw [zW_fn F24 51 (fun c => c) (x56_7)]; exact A17
  clear A17
  refine gw_st rfl rfl rfl ?_
  show ez_gw _ _ _ _ _ _ _ _ [some (.ref 69), some (.ref 2), some (.int x25), none, none] _ _ _
  refine gw_ld rfl rfl ?_
  refine gw_ld rfl rfl ?_
  refine z_C (m := 16) rfl rfl (fun x36 ex36 => ?_)
  have t37 := congrArg Int32.toInt (f34)
  refine z_cl rfl rfl rfl rfl rfl rfl rfl rfl rfl rfl rfl (zT S29 (by decide) rfl) ?_
  refine c_tb (n := x36) S29 (zMw F30 hM) (by rw [(show ez_I h23 2 1 = ez_I h 2 1 from zW_f F30 x56_0 x56_1)]; exact hz) (by rw [(show ez_I h23 2 1 = ez_I h 2 1 from zW_f F30 x56_0 x56_1), (show ez_I h23 3 = ez_I h 3 from zW_fn F30 3 x56_2 x56_3)]; exact hb) (by rw [(show ez_I h23 2 1 = ez_I h 2 1 from zW_f F30 x56_0 x56_1)]; omega) (by omega) (by rw [(show ez_I h23 2 1 = ez_I h 2 1 from zW_f F30 x56_0 x56_1)]; exact fun q hh FF => Ke (stS_o (by omega)) hh (zW_tr F30 (zW_mono FF x56_4 x56_5 x56_6))) (fun h38 x40 F39 k41 k42 k43 => ?_)
  rw [(show ez_I h23 3 = ez_I h 3 from zW_fn F30 3 x56_2 x56_3), show x36.toInt.toNat = 16 by omega, show (ez_I h23 69 6).toInt.toNat = (((ez_I h 69 6).toInt.toNat + 7) / 8 * 8) + 16 by omega] at k42
  rw [(show ez_I h23 2 1 = ez_I h 2 1 from zW_f F30 x56_0 x56_1)] at k41
  have rx40 := z_rng x40
  have vlx40 := vB_lt (tI (ez_I h 3)) ((((ez_I h 69 6).toInt.toNat + 7) / 8 * 8) + 16) (16)
  have vpx40 := Nat.pow_le_pow_right (n := 2) (by decide) (show 16 ≤ 16 by omega)
  have S44 := zW_sh F39 S29
  have F45 := zW_tr F30 (zW_mono F39 (x56_4) (x56_5) (x56_6))
  have r46 := z_rng (ez_I h38 69 2)
  have r47 := z_rng (ez_I h38 69 3)
  have r48 := z_rng (ez_I h38 69 6)
  have f49 : ez_I h38 50 1 = (ez_I h 50 1) := (zW_f F39 (fun c => c) (by decide)).trans (f34)
  have A50 : oR (ez_I h38 51) o (ez_I h 50 1).toInt.toNat := by rw [zW_fn F39 51 (fun c => c) (x56_7)]; exact A35
  clear A35
  refine gw_st rfl rfl rfl ?_
  show ez_gw _ _ _ _ _ _ _ _ [some (.ref 69), some (.ref 2), some (.int x25), some (.int x40), none] _ _ _
  refine gw_ld rfl rfl ?_
  refine gw_ld rfl rfl ?_
  refine z_2 rfl (fun x51 ex51 => ?_)
  have rx51 := z_rng x51
  have vx := xo_is k27 k42 (by omega) (by omega) ex51
  refine z_C (m := 65535) rfl rfl (fun x52 ex52 => ?_)
  refine z_b2 (fun c53 => ?_) (fun c53 => ?_)
  · have c53 : x51.toInt = x52.toInt := c53
    refine gw_skip _ ?_
    refine z_C (m := 0) rfl rfl (fun x54 ex54 => ?_)
    refine gw_st rfl rfl rfl ?_
    show ez_gw _ _ _ _ _ _ _ _ [some (.ref 69), some (.ref 2), some (.int x25), some (.int x40), some (.int x54)] _ _ _
    have t55 := congrArg Int32.toInt (f49)
    exact ez_Wp_at ((c_rStored_L0 (o := o) S hM hz hb hp hm ho Ke K (((100000 - x54.toInt)).toNat + 1)) h38 x25 x40 x54 ((((ez_I h 69 6).toInt.toNat + 7) / 8 * 8) + 32) o (ez_I h 50 1).toInt.toNat F45 (by omega) (stS_y (q := (((ez_I h 69 6).toInt.toNat + 7) / 8 * 8)) rfl (by omega) (vx.symm.trans (by omega)) (by omega)) (A50) (by omega)) rfl
  · have c53 : ¬ (x51.toInt = x52.toInt) := c53
    refine gw_ld rfl rfl ?_
    refine z_C (m := 3) rfl rfl (fun x56 ex56 => ?_)
    have t57 := congrArg Int32.toInt (f49)
    refine z_cl rfl rfl rfl rfl rfl rfl rfl rfl rfl rfl rfl (zT S44 (by decide) rfl) ?_
    exact c_fail (i := x56) S44 (zMw F45 hM) (by omega) (fun hh FF => Ke (stS_x (q := (((ez_I h 69 6).toInt.toNat + 7) / 8 * 8)) rfl (fun q => by omega)) hh (zW_tr F45 (zW_mono FF x56_4 x56_5 x56_6))) trivial
theorem x56_10 : ∀ q k : Nat, (q = 43 ∧ k = 4) → (q = 69 ∧ k = 2 ∨ q = 69 ∧ k = 3 ∨ q = 69 ∧ k = 6 ∨ q = 43 ∧ k = 4) := fun q k hk => (.inr (.inr (.inr hk)))
theorem x56_11 : ∀ q : Nat, (q = 45 ∨ q = 46 ∨ q = 47 ∨ q = 48 ∨ q = 49) → (q = 44 ∨ q = 45 ∨ q = 46 ∨ q = 47 ∨ q = 48 ∨ q = 49) := fun q hk => hk.elim (fun g => (.inr (.inl g))) (fun hk => hk.elim (fun g => (.inr (.inr (.inl g)))) (fun hk => hk.elim (fun g => (.inr (.inr (.inr (.inl g))))) (fun hk => hk.elim (fun g => (.inr (.inr (.inr (.inr (.inl g)))))) (fun hk => (.inr (.inr (.inr (.inr (.inr hk)))))))))
theorem x56_12 : ∀ k : Nat, ¬ (44 = 43 ∧ k = 4) := fun k c => by omega
theorem x56_13 : ∀ q k : Nat, (q = 69 ∧ k = 2 ∨ q = 69 ∧ k = 3 ∨ q = 69 ∧ k = 6) → (q = 69 ∧ k = 2 ∨ q = 69 ∧ k = 3 ∨ q = 69 ∧ k = 6 ∨ q = 43 ∧ k = 4) := fun q k hk => hk.elim (fun g => (.inl g)) (fun hk => hk.elim (fun g => (.inr (.inl g))) (fun hk => (.inr (.inr (.inl hk)))))
theorem x56_14 : ∀ q : Nat, (False) → (q = 44 ∨ q = 45 ∨ q = 46 ∨ q = 47 ∨ q = 48 ∨ q = 49) := fun q hk => hk.elim
theorem x56_15 : ¬ (2 = 44 ∨ 2 = 45 ∨ 2 = 46 ∨ 2 = 47 ∨ 2 = 48 ∨ 2 = 49) := by omega
theorem x56_16 : ¬ (2 = 69 ∧ 1 = 2 ∨ 2 = 69 ∧ 1 = 3 ∨ 2 = 69 ∧ 1 = 6 ∨ 2 = 43 ∧ 1 = 4) := by omega
theorem x56_17 : ¬ (3 = 44 ∨ 3 = 45 ∨ 3 = 46 ∨ 3 = 47 ∨ 3 = 48 ∨ 3 = 49) := by omega
theorem x56_18 : ∀ k : Nat, ¬ (3 = 69 ∧ k = 2 ∨ 3 = 69 ∧ k = 3 ∨ 3 = 69 ∧ k = 6 ∨ 3 = 43 ∧ k = 4) := fun k c => by omega
theorem x56_19 : ∀ k : Nat, ¬ (44 = 69 ∧ k = 2 ∨ 44 = 69 ∧ k = 3 ∨ 44 = 69 ∧ k = 6) := fun k c => by omega
set_option maxRecDepth 4000 in
set_option maxHeartbeats 2000000 in
theorem c_rAlph_L0 {E : Nat → Nat × (Nat → Int32)} {d : Nat} {Q : ez_Q} {h : ez_H} {n : Int32} (S : zSh h) (hE : zE E) (hM : zMem h) (hz : 0 ≤ (ez_I h 2 1).toInt ∧ (ez_I h 2 1).toInt ≤ 6000) (hb : aR (ez_I h 3) (ez_I h 2 1).toInt.toNat 0 255) (hp : 0 ≤ (ez_I h 69 6).toInt ∧ (ez_I h 69 6).toInt ≤ 8 * (ez_I h 2 1).toInt) (hn : 4 ≤ n.toInt ∧ n.toInt ≤ 19) (Ke : (8 * (ez_I h 2 1).toInt < (ez_I h 69 6).toInt + 3 * n.toInt ∨ wsN (alF (tI (ez_I h 3)) (ez_I h 69 6).toInt.toNat n.toInt.toNat) 288 ≠ 32768) → ∀ h2, zW (fun q k => q = 69 ∧ k = 2 ∨ q = 69 ∧ k = 3 ∨ q = 69 ∧ k = 6 ∨ q = 43 ∧ k = 4) (fun q => q = 44 ∨ q = 45 ∨ q = 46 ∨ q = 47 ∨ q = 48 ∨ q = 49) (fun _ => False) h h2 → Q (.inr 2) (ez_bump h2)) (K : ∀ h2, zW (fun q k => q = 69 ∧ k = 2 ∨ q = 69 ∧ k = 3 ∨ q = 69 ∧ k = 6 ∨ q = 43 ∧ k = 4) (fun q => q = 44 ∨ q = 45 ∨ q = 46 ∨ q = 47 ∨ q = 48 ∨ q = 49) (fun _ => False) h h2 → (ez_I h 69 6).toInt + 3 * n.toInt ≤ 8 * (ez_I h 2 1).toInt → wsN (alF (tI (ez_I h 3)) (ez_I h 69 6).toInt.toNat n.toInt.toNat) 288 = 32768 → (ez_I h2 69 6).toInt = (ez_I h 69 6).toInt + 3 * n.toInt → alI (ez_I h2 44) (tI (ez_I h 3)) (ez_I h 69 6).toInt.toNat n.toInt.toNat 288 → ctC (ez_I h2 46) (nL (ez_I h2 44)) 288 → (ez_I h2 43 4).toInt = (plN (nL (ez_I h2 44)) 288 16 : Nat) → itI (ez_I h2 47) (nL (ez_I h2 44)) 288 288 → Q (.inl none) h2) : ∀ N : Nat, (∀ (h2 : ez_H) (i : Int32) , zW (fun q k => q = 69 ∧ k = 2 ∨ q = 69 ∧ k = 3 ∨ q = 69 ∧ k = 6 ∨ q = 43 ∧ k = 4) (fun q => q = 44 ∨ q = 45 ∨ q = 46 ∨ q = 47 ∨ q = 48 ∨ q = 49) (fun _ => False) h h2 → (0 ≤ i.toInt ∧ i.toInt ≤ n.toInt ∧ (ez_I h2 69 6).toInt = (ez_I h 69 6).toInt + 3 * i.toInt ∧ (ez_I h2 69 6).toInt ≤ 8 * (ez_I h 2 1).toInt) → (alI (ez_I h2 44) (tI (ez_I h 3)) (ez_I h 69 6).toInt.toNat i.toInt.toNat 288) → (100 - i.toInt) < (N : Int) → pw E (d + 3) 136 16 [some (.ref 69), some (.ref 2), some (.int n), some (.int i)] [] h2 Q) := by
  intro N
  induction N with
  | zero => exact fun h2 i  F hinv A_al hm => absurd hm (by have w_i := z_rng i; have gn := z_rng n; omega)
  | succ N ih =>
    refine fun h2 i  F hinv A_al hm => ?_
    · skip
      have w_i := z_rng i
      have gn := z_rng n
      have S2 := zW_sh F S
      apply ez_Wp_in
      show ez_gw _ _ _ _ _ _ (cz_136) _ _ _ _ _
      refine gw_skip _ ?_
      have r1 := z_rng (ez_I h2 69 2)
      have r2 := z_rng (ez_I h2 69 3)
      have r3 := z_rng (ez_I h2 69 6)
      have r4 := z_rng (ez_I h2 43 4)
      refine gw_ld rfl rfl ?_
      refine gw_ld rfl rfl ?_
      refine z_b2 (fun c5 => ?_) (fun c5 => ?_)
      · have c5 : n.toInt ≤ i.toInt := c5
        refine gw_skip _ ?_
        have hal := A_al
        rw [show i.toInt.toNat = n.toInt.toNat by omega] at hal
        refine gw_ld rfl rfl ?_
        refine z_gR (q := 14) (zT S2 (by decide) rfl) (zRf S2 (by decide) (by decide) rfl) (by decide) ?_
        refine z_gR (q := 43) (zT S2 (by decide) rfl) (zRf S2 (by decide) (by decide) rfl) (by decide) ?_
        refine z_cl rfl rfl rfl rfl rfl rfl rfl rfl rfl rfl rfl (zT S2 (by decide) rfl) ?_
        refine c_settle (p := 43) S2 (by decide) (al_aR hal) (fun h6 F7 k8 k9 k10 k11 => ?_)
        have A12 : ctC (ez_I h6 46) (nL (ez_I h6 44)) 288 := by rw [(show ez_I h6 44 = ez_I h2 44 from zW_fn F7 44 (by decide) (fun k c => by omega))]; exact k8
        have A13 : (ez_I h6 43 4).toInt = (plN (nL (ez_I h6 44)) 288 16 : Nat) := by rw [(show ez_I h6 44 = ez_I h2 44 from zW_fn F7 44 (by decide) (fun k c => by omega))]; exact k9
        have A14 : itI (ez_I h6 47) (nL (ez_I h6 44)) 288 288 := by rw [(show ez_I h6 44 = ez_I h2 44 from zW_fn F7 44 (by decide) (fun k c => by omega))]; exact k11
        have S15 := zW_sh F7 S2
        have F16 := zW_tr F (zW_mono F7 (x56_10) (x56_11) (x56_6))
        have f17 : ez_I h6 69 2 = (ez_I h2 69 2) := (zW_f F7 (by decide) (by decide)).trans (rfl)
        have f18 : ez_I h6 69 3 = (ez_I h2 69 3) := (zW_f F7 (by decide) (by decide)).trans (rfl)
        have f19 : ez_I h6 69 6 = (ez_I h2 69 6) := (zW_f F7 (by decide) (by decide)).trans (rfl)
        have r20 := z_rng (ez_I h6 43 4)
        have A21 : alI (ez_I h6 44) (tI (ez_I h 3)) (ez_I h 69 6).toInt.toNat n.toInt.toNat 288 := by rw [zW_fn F7 44 (by decide) (x56_12)]; exact hal
        refine gw_ld rfl rfl ?_
        refine z_gR (q := 14) (zT S15 (by decide) rfl) (zRf S15 (by decide) (by decide) rfl) (by decide) ?_
        refine z_gR (q := 43) (zT S15 (by decide) rfl) (zRf S15 (by decide) (by decide) rfl) (by decide) ?_
        have t22 := congrArg Int32.toInt (f17)
        have t23 := congrArg Int32.toInt (f18)
        have t24 := congrArg Int32.toInt (f19)
        refine z_cl rfl rfl rfl rfl rfl rfl rfl rfl rfl rfl rfl (zT S15 (by decide) rfl) ?_
        refine c_whole (p := 43) S15 (by decide) (al_aR A21) A12 (fun x25 k26 => ?_)
        have rx25 := z_rng x25
        have hws := k26
        rw [show wsN (nL (ez_I h6 (43 + 1))) 288 = wsN (alF (tI (ez_I h 3)) (ez_I h 69 6).toInt.toNat n.toInt.toNat) 288 from ws_eq 288 (al_nL A21)] at hws
        refine z_b1 (fun c27 => ?_) (fun c27 => ?_)
        · have c27 : x25.toInt ≠ 0 := c27
          refine gw_skip _ ?_
          refine z_rv ?_
          exact K _ F16 (by omega) (by omega) (by omega) A21 A12 A13 A14
        · have c27 : ¬ (x25.toInt ≠ 0) := c27
          refine gw_ld rfl rfl ?_
          refine z_C (m := 5) rfl rfl (fun x28 ex28 => ?_)
          refine z_cl rfl rfl rfl rfl rfl rfl rfl rfl rfl rfl rfl (zT S15 (by decide) rfl) ?_
          exact c_fail (i := x28) S15 (zMw F16 hM) (by omega) (fun hh FF => Ke (.inr (by omega)) hh (zW_tr F16 (zW_mono FF x56_13 x56_14 x56_6))) trivial
      · have c5 : ¬ (n.toInt ≤ i.toInt) := c5
        refine gw_ld rfl rfl ?_
        refine z_C (m := 19) rfl rfl (fun x29 ex29 => ?_)
        refine z_b2 (fun c30 => ?_) (fun c30 => ?_)
        · have c30 : x29.toInt ≤ i.toInt := c30
          refine gw_skip _ ?_
          have hal := A_al
          rw [show i.toInt.toNat = n.toInt.toNat by omega] at hal
          refine gw_ld rfl rfl ?_
          refine z_gR (q := 14) (zT S2 (by decide) rfl) (zRf S2 (by decide) (by decide) rfl) (by decide) ?_
          refine z_gR (q := 43) (zT S2 (by decide) rfl) (zRf S2 (by decide) (by decide) rfl) (by decide) ?_
          refine z_cl rfl rfl rfl rfl rfl rfl rfl rfl rfl rfl rfl (zT S2 (by decide) rfl) ?_
          refine c_settle (p := 43) S2 (by decide) (al_aR hal) (fun h31 F32 k33 k34 k35 k36 => ?_)
          have A37 : ctC (ez_I h31 46) (nL (ez_I h31 44)) 288 := by rw [(show ez_I h31 44 = ez_I h2 44 from zW_fn F32 44 (by decide) (fun k c => by omega))]; exact k33
          have A38 : (ez_I h31 43 4).toInt = (plN (nL (ez_I h31 44)) 288 16 : Nat) := by rw [(show ez_I h31 44 = ez_I h2 44 from zW_fn F32 44 (by decide) (fun k c => by omega))]; exact k34
          have A39 : itI (ez_I h31 47) (nL (ez_I h31 44)) 288 288 := by rw [(show ez_I h31 44 = ez_I h2 44 from zW_fn F32 44 (by decide) (fun k c => by omega))]; exact k36
          have S40 := zW_sh F32 S2
          have F41 := zW_tr F (zW_mono F32 (x56_10) (x56_11) (x56_6))
          have f42 : ez_I h31 69 2 = (ez_I h2 69 2) := (zW_f F32 (by decide) (by decide)).trans (rfl)
          have f43 : ez_I h31 69 3 = (ez_I h2 69 3) := (zW_f F32 (by decide) (by decide)).trans (rfl)
          have f44 : ez_I h31 69 6 = (ez_I h2 69 6) := (zW_f F32 (by decide) (by decide)).trans (rfl)
          have r45 := z_rng (ez_I h31 43 4)
          have A46 : alI (ez_I h31 44) (tI (ez_I h 3)) (ez_I h 69 6).toInt.toNat n.toInt.toNat 288 := by rw [zW_fn F32 44 (by decide) (x56_12)]; exact hal
          refine gw_ld rfl rfl ?_
          refine z_gR (q := 14) (zT S40 (by decide) rfl) (zRf S40 (by decide) (by decide) rfl) (by decide) ?_
          refine z_gR (q := 43) (zT S40 (by decide) rfl) (zRf S40 (by decide) (by decide) rfl) (by decide) ?_
          have t47 := congrArg Int32.toInt (f42)
          have t48 := congrArg Int32.toInt (f43)
          have t49 := congrArg Int32.toInt (f44)
          refine z_cl rfl rfl rfl rfl rfl rfl rfl rfl rfl rfl rfl (zT S40 (by decide) rfl) ?_
          refine c_whole (p := 43) S40 (by decide) (al_aR A46) A37 (fun x50 k51 => ?_)
          have rx50 := z_rng x50
          have hws := k51
          rw [show wsN (nL (ez_I h31 (43 + 1))) 288 = wsN (alF (tI (ez_I h 3)) (ez_I h 69 6).toInt.toNat n.toInt.toNat) 288 from ws_eq 288 (al_nL A46)] at hws
          refine z_b1 (fun c52 => ?_) (fun c52 => ?_)
          · have c52 : x50.toInt ≠ 0 := c52
            refine gw_skip _ ?_
            refine z_rv ?_
            exact K _ F41 (by omega) (by omega) (by omega) A46 A37 A38 A39
          · have c52 : ¬ (x50.toInt ≠ 0) := c52
            refine gw_ld rfl rfl ?_
            refine z_C (m := 5) rfl rfl (fun x53 ex53 => ?_)
            refine z_cl rfl rfl rfl rfl rfl rfl rfl rfl rfl rfl rfl (zT S40 (by decide) rfl) ?_
            exact c_fail (i := x53) S40 (zMw F41 hM) (by omega) (fun hh FF => Ke (.inr (by omega)) hh (zW_tr F41 (zW_mono FF x56_13 x56_14 x56_6))) trivial
        · have c30 : ¬ (x29.toInt ≤ i.toInt) := c30
          refine gw_ld rfl rfl ?_
          refine z_gR (q := 14) (zT S2 (by decide) rfl) (zRf S2 (by decide) (by decide) rfl) (by decide) ?_
          refine z_gR (q := 43) (zT S2 (by decide) rfl) (zRf S2 (by decide) (by decide) rfl) (by decide) ?_
          refine z_gR (q := 44) (zT S2 (by decide) rfl) (zRf S2 (by decide) (by decide) rfl) (by decide) ?_
          refine z_gs ?_
          refine gw_ld rfl rfl ?_
          refine z_iaE (n := 19) (hE 7) (by omega) ?_
          generalize ex54 : (tz_ar (7 + 1)).getD i.toInt.toNat 0 = x54
          have rx54 := z_rng x54
          have ox54 := tz_OR (n := i.toInt.toNat) (by omega)
          rw [ex54] at ox54
          have uo := OR_18 i.toInt.toNat (by omega)
          refine gw_ld rfl rfl ?_
          refine gw_ld rfl rfl ?_
          refine z_C (m := 3) rfl rfl (fun x55 ex55 => ?_)
          refine z_cl rfl rfl rfl rfl rfl rfl rfl rfl rfl rfl rfl (zT S2 (by decide) rfl) ?_
          refine c_tb (n := x55) S2 (zMw F hM) (by rw [(show ez_I h2 2 1 = ez_I h 2 1 from zW_f F x56_15 x56_16)]; exact hz) (by rw [(show ez_I h2 2 1 = ez_I h 2 1 from zW_f F x56_15 x56_16), (show ez_I h2 3 = ez_I h 3 from zW_fn F 3 x56_17 x56_18)]; exact hb) (by rw [(show ez_I h2 2 1 = ez_I h 2 1 from zW_f F x56_15 x56_16)]; omega) (by omega) (by rw [(show ez_I h2 2 1 = ez_I h 2 1 from zW_f F x56_15 x56_16)]; exact fun q hh FF => Ke (.inl (by omega)) hh (zW_tr F (zW_mono FF x56_13 x56_14 x56_6))) (fun h56 x58 F57 k59 k60 k61 => ?_)
          rw [(show ez_I h2 3 = ez_I h 3 from zW_fn F 3 x56_17 x56_18), show x55.toInt.toNat = 3 by omega, show (ez_I h2 69 6).toInt.toNat = (ez_I h 69 6).toInt.toNat + 3 * i.toInt.toNat by omega] at k60
          rw [(show ez_I h2 2 1 = ez_I h 2 1 from zW_f F x56_15 x56_16)] at k59
          have rx58 := z_rng x58
          have vlx58 := vB_lt (tI (ez_I h 3)) ((ez_I h 69 6).toInt.toNat + 3 * i.toInt.toNat) (3)
          have vpx58 := Nat.pow_le_pow_right (n := 2) (by decide) (show 3 ≤ 16 by omega)
          have S62 := zW_sh F57 S2
          have F63 := zW_tr F (zW_mono F57 (x56_13) (x56_14) (x56_6))
          have r64 := z_rng (ez_I h56 69 2)
          have r65 := z_rng (ez_I h56 69 3)
          have r66 := z_rng (ez_I h56 69 6)
          have f67 : ez_I h56 43 4 = (ez_I h2 43 4) := (zW_f F57 (fun c => c) (by decide)).trans (rfl)
          have A68 : alI (ez_I h56 44) (tI (ez_I h 3)) (ez_I h 69 6).toInt.toNat i.toInt.toNat 288 := by rw [zW_fn F57 44 (fun c => c) (x56_19)]; exact A_al
          refine z_is (n := 288) (zT S62 (by decide) rfl) (zN S62 (by decide) rfl) (by omega) (fun h69 e70 => ?_)
          have S71 := zSh_set S62 e70
          have F72 := zW_setA F63 e70 (by decide)
          have f73 : ez_I h69 69 2 = (ez_I h56 69 2) := (zI_ne e70 (by omega)).trans (rfl)
          have f74 : ez_I h69 69 3 = (ez_I h56 69 3) := (zI_ne e70 (by omega)).trans (rfl)
          have f75 : ez_I h69 69 6 = (ez_I h56 69 6) := (zI_ne e70 (by omega)).trans (rfl)
          have f76 : ez_I h69 43 4 = (ez_I h2 43 4) := (zI_ne e70 (by omega)).trans (f67)
          have A77 : alI (ez_I h69 44) (tI (ez_I h 3)) (ez_I h 69 6).toInt.toNat (i.toInt.toNat + 1) 288 := alI_s A68 e70 (by omega) k60 rfl
          clear A68
          refine z_inc rfl (by rw [show (1 : Int32).toInt = 1 from rfl]; omega) (fun x78 ex78 => ?_)
          rw [show (1 : Int32).toInt = 1 from rfl] at ex78
          show ez_gw _ _ _ _ _ _ _ _ [some (.ref 69), some (.ref 2), some (.int n), some (.int x78)] _ _ _
          refine z_go ?_
          have t79 := congrArg Int32.toInt (f73)
          have t80 := congrArg Int32.toInt (f74)
          have t81 := congrArg Int32.toInt (f75)
          have t82 := congrArg Int32.toInt (f76)
          exact ih h69 x78 F72 (by omega) ((by rw [show x78.toInt.toNat = i.toInt.toNat + 1 by omega]; exact A77)) (by omega)
set_option maxRecDepth 4000 in
set_option maxHeartbeats 2000000 in
theorem c_rAlph {E : Nat → Nat × (Nat → Int32)} {d : Nat} {Q : ez_Q} {h : ez_H} {n : Int32} (S : zSh h) (hE : zE E) (hM : zMem h) (hz : 0 ≤ (ez_I h 2 1).toInt ∧ (ez_I h 2 1).toInt ≤ 6000) (hb : aR (ez_I h 3) (ez_I h 2 1).toInt.toNat 0 255) (hp : 0 ≤ (ez_I h 69 6).toInt ∧ (ez_I h 69 6).toInt ≤ 8 * (ez_I h 2 1).toInt) (hn : 4 ≤ n.toInt ∧ n.toInt ≤ 19) (Ke : (8 * (ez_I h 2 1).toInt < (ez_I h 69 6).toInt + 3 * n.toInt ∨ wsN (alF (tI (ez_I h 3)) (ez_I h 69 6).toInt.toNat n.toInt.toNat) 288 ≠ 32768) → ∀ h2, zW (fun q k => q = 69 ∧ k = 2 ∨ q = 69 ∧ k = 3 ∨ q = 69 ∧ k = 6 ∨ q = 43 ∧ k = 4) (fun q => q = 44 ∨ q = 45 ∨ q = 46 ∨ q = 47 ∨ q = 48 ∨ q = 49) (fun _ => False) h h2 → Q (.inr 2) (ez_bump h2)) (K : ∀ h2, zW (fun q k => q = 69 ∧ k = 2 ∨ q = 69 ∧ k = 3 ∨ q = 69 ∧ k = 6 ∨ q = 43 ∧ k = 4) (fun q => q = 44 ∨ q = 45 ∨ q = 46 ∨ q = 47 ∨ q = 48 ∨ q = 49) (fun _ => False) h h2 → (ez_I h 69 6).toInt + 3 * n.toInt ≤ 8 * (ez_I h 2 1).toInt → wsN (alF (tI (ez_I h 3)) (ez_I h 69 6).toInt.toNat n.toInt.toNat) 288 = 32768 → (ez_I h2 69 6).toInt = (ez_I h 69 6).toInt + 3 * n.toInt → alI (ez_I h2 44) (tI (ez_I h 3)) (ez_I h 69 6).toInt.toNat n.toInt.toNat 288 → ctC (ez_I h2 46) (nL (ez_I h2 44)) 288 → (ez_I h2 43 4).toInt = (plN (nL (ez_I h2 44)) 288 16 : Nat) → itI (ez_I h2 47) (nL (ez_I h2 44)) 288 288 → Q (.inl none) h2) : pw E (d + 3) 136 0 [some (.ref 69), some (.ref 2), some (.int n), none] [] h Q := by
  have gn := z_rng n
  have F := zW_refl (fun q k => q = 69 ∧ k = 2 ∨ q = 69 ∧ k = 3 ∨ q = 69 ∧ k = 6 ∨ q = 43 ∧ k = 4) (fun q => q = 44 ∨ q = 45 ∨ q = 46 ∨ q = 47 ∨ q = 48 ∨ q = 49) (fun _ => False) h
  apply ez_Wp_in
  show ez_gw _ _ _ _ _ _ (cz_136) _ _ _ _ _
  refine gw_skip _ ?_
  have r1 := z_rng (ez_I h 69 2)
  have r2 := z_rng (ez_I h 69 3)
  have r3 := z_rng (ez_I h 69 6)
  have r4 := z_rng (ez_I h 43 4)
  refine gw_ld rfl rfl ?_
  refine z_gR (q := 14) (zT S (by decide) rfl) (zRf S (by decide) (by decide) rfl) (by decide) ?_
  refine z_gR (q := 43) (zT S (by decide) rfl) (zRf S (by decide) (by decide) rfl) (by decide) ?_
  refine z_gR (q := 44) (zT S (by decide) rfl) (zRf S (by decide) (by decide) rfl) (by decide) ?_
  refine z_C (m := 0) rfl rfl (fun x5 ex5 => ?_)
  refine z_cl rfl rfl rfl rfl rfl rfl rfl rfl rfl rfl rfl (trivial) ?_
  refine wp_fill (zT S (by decide) rfl) (by rw [show ez_l h 44 = 288 from zN S (by decide) rfl]; omega) ?_
  generalize e7 : ez_rowI h 44 (pf_fill (ez_I h 44) (ez_l h 44) x5) = h6
  have e7 := e7.symm
  have A8 := zIr_at e7 (show ez_l h 44 = 288 from zN S (by decide) rfl)
  have S9 := zSh_row S e7
  have F10 := zW_row F e7 (by omega)
  have f11 : ez_I h6 69 2 = (ez_I h 69 2) := (zI_row e7 (by omega)).trans (rfl)
  have f12 : ez_I h6 69 3 = (ez_I h 69 3) := (zI_row e7 (by omega)).trans (rfl)
  have f13 : ez_I h6 69 6 = (ez_I h 69 6) := (zI_row e7 (by omega)).trans (rfl)
  have f14 : ez_I h6 43 4 = (ez_I h 43 4) := (zI_row e7 (by omega)).trans (rfl)
  have A15 : alI (ez_I h6 44) (tI (ez_I h 3)) (ez_I h 69 6).toInt.toNat 0 288 := alI_0 A8 (by omega)
  refine z_C (m := 0) rfl rfl (fun x16 ex16 => ?_)
  refine gw_st rfl rfl rfl ?_
  show ez_gw _ _ _ _ _ _ _ _ [some (.ref 69), some (.ref 2), some (.int n), some (.int x16)] _ _ _
  have t17 := congrArg Int32.toInt (f11)
  have t18 := congrArg Int32.toInt (f12)
  have t19 := congrArg Int32.toInt (f13)
  have t20 := congrArg Int32.toInt (f14)
  exact ez_Wp_at ((c_rAlph_L0 (n := n) S hE hM hz hb hp hn Ke K (((100 - x16.toInt)).toNat + 1)) h6 x16 F10 (by omega) ((by rw [show x16.toInt.toNat = 0 by omega]; exact A15)) (by omega)) rfl
theorem x56_20 : ¬ (2 = 70) := by omega
theorem x56_21 : ¬ (2 = 69 ∧ 1 = 2 ∨ 2 = 69 ∧ 1 = 3 ∨ 2 = 69 ∧ 1 = 6) := by omega
theorem x56_22 : ¬ (3 = 70) := by omega
theorem x56_23 : ∀ k : Nat, ¬ (3 = 69 ∧ k = 2 ∨ 3 = 69 ∧ k = 3 ∨ 3 = 69 ∧ k = 6) := fun k c => by omega
theorem x56_24 : ¬ (44 = 70) := by omega
theorem x56_25 : ¬ (46 = 70) := by omega
theorem x56_26 : ∀ k : Nat, ¬ (46 = 69 ∧ k = 2 ∨ 46 = 69 ∧ k = 3 ∨ 46 = 69 ∧ k = 6) := fun k c => by omega
theorem x56_27 : ¬ (47 = 70) := by omega
theorem x56_28 : ∀ k : Nat, ¬ (47 = 69 ∧ k = 2 ∨ 47 = 69 ∧ k = 3 ∨ 47 = 69 ∧ k = 6) := fun k c => by omega
theorem x56_29 : ¬ (43 = 70) := by omega
theorem x56_30 : ¬ (43 = 69 ∧ 4 = 2 ∨ 43 = 69 ∧ 4 = 3 ∨ 43 = 69 ∧ 4 = 6) := by omega
theorem x56_31 : ∀ q k : Nat, (q = 69 ∧ k = 2 ∨ q = 69 ∧ k = 3 ∨ q = 69 ∧ k = 6) → (q = 69 ∧ k = 2 ∨ q = 69 ∧ k = 3 ∨ q = 69 ∧ k = 6) := fun q k hk => hk.elim (fun g => (.inl g)) (fun hk => hk.elim (fun g => (.inr (.inl g))) (fun hk => (.inr (.inr hk))))
theorem x56_32 : ∀ q : Nat, (False) → (q = 70) := fun q hk => hk.elim
theorem x56_33 : ∀ k : Nat, ¬ (70 = 69 ∧ k = 2 ∨ 70 = 69 ∧ k = 3 ∨ 70 = 69 ∧ k = 6) := fun k c => by omega
set_option maxRecDepth 4000 in
set_option maxHeartbeats 2000000 in
theorem c_rRow_L0 {E : Nat → Nat × (Nat → Int32)} {d : Nat} {Q : ez_Q} {h : ez_H} {z : Int32} (S : zSh h) (hE : zE E) (hM : zMem h) (hz : 0 ≤ (ez_I h 2 1).toInt ∧ (ez_I h 2 1).toInt ≤ 6000) (hb : aR (ez_I h 3) (ez_I h 2 1).toInt.toNat 0 255) (hp : 0 ≤ (ez_I h 69 6).toInt ∧ (ez_I h 69 6).toInt ≤ 8 * (ez_I h 2 1).toInt) (hzz : 1 ≤ z.toInt ∧ z.toInt ≤ 316) (hL : aR (ez_I h 44) 288 0 15) (hL0 : ∀ k, 19 ≤ k → k < 288 → (nL (ez_I h 44)) k = 0) (hct : ctC (ez_I h 46) (nL (ez_I h 44)) 288) (hcd : (ez_I h 43 4).toInt = (plN (nL (ez_I h 44)) 288 16 : Nat)) (hit : itI (ez_I h 47) (nL (ez_I h 44)) 288 288) (Ke : rwL (tI (ez_I h 3)) (ez_I h 2 1).toInt.toNat (nL (ez_I h 44)) 288 z.toInt.toNat z.toInt.toNat (ez_I h 69 6).toInt.toNat 0 (fun _ => 0) = none → ∀ h2, zW (fun q k => q = 69 ∧ k = 2 ∨ q = 69 ∧ k = 3 ∨ q = 69 ∧ k = 6) (fun q => q = 70) (fun _ => False) h h2 → Q (.inr 2) (ez_bump h2)) (K : ∀ h2, zW (fun q k => q = 69 ∧ k = 2 ∨ q = 69 ∧ k = 3 ∨ q = 69 ∧ k = 6) (fun q => q = 70) (fun _ => False) h h2 → ∀ (q : Nat) (r : Nat → Nat), rwL (tI (ez_I h 3)) (ez_I h 2 1).toInt.toNat (nL (ez_I h 44)) 288 z.toInt.toNat z.toInt.toNat (ez_I h 69 6).toInt.toNat 0 (fun _ => 0) = some (q, r) → (ez_I h2 69 6).toInt = q → rwJ (ez_I h2 70) r z.toInt.toNat → Q (.inl none) h2) : ∀ N : Nat, (∀ (h2 : ez_H) (a : Int32) (n : Int32) (l5 : Option Value) (l6 : Option Value) (l7 : Option Value) (l8 : Option Value) (l9 : Option Value) (p2 : Nat) (r : Nat → Nat), zW (fun q k => q = 69 ∧ k = 2 ∨ q = 69 ∧ k = 3 ∨ q = 69 ∧ k = 6) (fun q => q = 70) (fun _ => False) h h2 → (0 ≤ n.toInt ∧ n.toInt ≤ a.toInt ∧ a.toInt ≤ z.toInt ∧ (ez_I h2 69 6).toInt = p2 ∧ (p2 : Int) ≤ 8 * (ez_I h 2 1).toInt) → (rwL (tI (ez_I h 3)) (ez_I h 2 1).toInt.toNat (nL (ez_I h 44)) 288 z.toInt.toNat z.toInt.toNat (ez_I h 69 6).toInt.toNat 0 (fun _ => 0) = rwL (tI (ez_I h 3)) (ez_I h 2 1).toInt.toNat (nL (ez_I h 44)) 288 z.toInt.toNat (z.toInt.toNat - a.toInt.toNat) p2 a.toInt.toNat r) → (rwJ (ez_I h2 70) r a.toInt.toNat) → (1000 * (400 - n.toInt)) < (N : Int) → pw E (d + 3) 137 5 [some (.ref 69), some (.ref 2), some (.int z), some (.int a), some (.int n), l5, l6, l7, l8, l9] [] h2 Q) ∧ (∀ (h2 : ez_H) (a : Int32) (n : Int32) (s : Int32) (v : Int32) (t : Int32) (kk : Int32) (i : Int32) (p2 : Nat) (r : Nat → Nat) (a0 : Nat), zW (fun q k => q = 69 ∧ k = 2 ∨ q = 69 ∧ k = 3 ∨ q = 69 ∧ k = 6) (fun q => q = 70) (fun _ => False) h h2 → (0 ≤ n.toInt ∧ n.toInt ≤ a0 ∧ 0 ≤ i.toInt ∧ i.toInt ≤ t.toInt ∧ 1 ≤ t.toInt ∧ a.toInt = a0 + i.toInt ∧ a0 + t.toInt ≤ z.toInt ∧ 0 ≤ v.toInt ∧ v.toInt ≤ 15 ∧ (ez_I h2 69 6).toInt = p2 ∧ (p2 : Int) ≤ 8 * (ez_I h 2 1).toInt) → (rwL (tI (ez_I h 3)) (ez_I h 2 1).toInt.toNat (nL (ez_I h 44)) 288 z.toInt.toNat z.toInt.toNat (ez_I h 69 6).toInt.toNat 0 (fun _ => 0) = rwL (tI (ez_I h 3)) (ez_I h 2 1).toInt.toNat (nL (ez_I h 44)) 288 z.toInt.toNat (z.toInt.toNat - (a0 + t.toInt.toNat)) p2 (a0 + t.toInt.toNat) (flN r a0 t.toInt.toNat v.toInt.toNat)) → (rwJ (ez_I h2 70) (flN r a0 i.toInt.toNat v.toInt.toNat) (a0 + i.toInt.toNat)) → (1000 * (400 - n.toInt) - 1 - i.toInt) < (N : Int) → pw E (d + 3) 137 135 [some (.ref 69), some (.ref 2), some (.int z), some (.int a), some (.int n), some (.int s), some (.int v), some (.int t), some (.int kk), some (.int i)] [] h2 Q) := by
  intro N
  induction N with
  | zero => exact ⟨fun h2 a n l5 l6 l7 l8 l9 p2 r F hinv A_sp A_rw hm => absurd hm (by have w_a := z_rng a; have w_n := z_rng n; have gz := z_rng z; omega), fun h2 a n s v t kk i p2 r a0 F hinv A_sp A_rw hm => absurd hm (by have w_a := z_rng a; have w_n := z_rng n; have w_s := z_rng s; have w_v := z_rng v; have w_t := z_rng t; have w_kk := z_rng kk; have w_i := z_rng i; have gz := z_rng z; omega)⟩
  | succ N ih =>
    refine ⟨fun h2 a n l5 l6 l7 l8 l9 p2 r F hinv A_sp A_rw hm => ?_, fun h2 a n s v t kk i p2 r a0 F hinv A_sp A_rw hm => ?_⟩
    · skip
      have w_a := z_rng a
      have w_n := z_rng n
      have gz := z_rng z
      have S2 := zW_sh F S
      apply ez_Wp_in
      show ez_gw _ _ _ _ _ _ (cz_137) _ _ _ _ _
      refine gw_skip _ ?_
      have r1 := z_rng (ez_I h2 69 2)
      have r2 := z_rng (ez_I h2 69 3)
      have r3 := z_rng (ez_I h2 69 6)
      refine gw_ld rfl rfl ?_
      refine gw_ld rfl rfl ?_
      refine z_b2 (fun c4 => ?_) (fun c4 => ?_)
      · have c4 : z.toInt ≤ n.toInt := c4
        refine gw_skip _ ?_
        refine z_rv ?_
        have b1 := A_rw
        rw [show a.toInt.toNat = z.toInt.toNat by omega] at b1
        exact K _ F p2 r (A_sp.trans (rwL_e (by omega))) (by omega) b1
      · have c4 : ¬ (z.toInt ≤ n.toInt) := c4
        refine gw_ld rfl rfl ?_
        refine gw_ld rfl rfl ?_
        refine z_b2 (fun c5 => ?_) (fun c5 => ?_)
        · have c5 : z.toInt ≤ a.toInt := c5
          refine gw_skip _ ?_
          refine z_rv ?_
          have b1 := A_rw
          rw [show a.toInt.toNat = z.toInt.toNat by omega] at b1
          exact K _ F p2 r (A_sp.trans (rwL_e (by omega))) (by omega) b1
        · have c5 : ¬ (z.toInt ≤ a.toInt) := c5
          refine gw_ld rfl rfl ?_
          refine gw_ld rfl rfl ?_
          refine gw_ld rfl rfl ?_
          refine z_gR (q := 14) (zT S2 (by decide) rfl) (zRf S2 (by decide) (by decide) rfl) (by decide) ?_
          refine z_gR (q := 43) (zT S2 (by decide) rfl) (zRf S2 (by decide) (by decide) rfl) (by decide) ?_
          refine z_cl rfl rfl rfl rfl rfl rfl rfl rfl rfl rfl rfl (zT S2 (by decide) rfl) ?_
          refine c_sym (p := 43) S2 (by decide) (zMw F hM) (by rw [(show ez_I h2 2 1 = ez_I h 2 1 from zW_f F x56_20 x56_21)]; exact hz) (by rw [(show ez_I h2 2 1 = ez_I h 2 1 from zW_f F x56_20 x56_21), (show ez_I h2 3 = ez_I h 3 from zW_fn F 3 x56_22 x56_23)]; exact hb) (by rw [(show ez_I h2 2 1 = ez_I h 2 1 from zW_f F x56_20 x56_21)]; omega) (show aR (ez_I h2 44) 288 0 15 by rw [(show ez_I h2 44 = ez_I h 44 from zW_fn F 44 x56_24 x56_19)]; exact hL) (show ctC (ez_I h2 46) (nL (ez_I h2 44)) 288 by rw [(show ez_I h2 46 = ez_I h 46 from zW_fn F 46 x56_25 x56_26), (show ez_I h2 44 = ez_I h 44 from zW_fn F 44 x56_24 x56_19)]; exact hct) (show (ez_I h2 43 4).toInt = (plN (nL (ez_I h2 44)) 288 16 : Nat) by rw [(show ez_I h2 43 4 = ez_I h 43 4 from zW_f F x56_29 x56_30), (show ez_I h2 44 = ez_I h 44 from zW_fn F 44 x56_24 x56_19)]; exact hcd) (show itI (ez_I h2 47) (nL (ez_I h2 44)) 288 288 by rw [(show ez_I h2 47 = ez_I h 47 from zW_fn F 47 x56_27 x56_28), (show ez_I h2 44 = ez_I h 44 from zW_fn F 44 x56_24 x56_19)]; exact hit) (fun qn hh FF => Ke (by have q2 : sdR (tI (ez_I h2 3)) (ez_I h2 2 1).toInt.toNat (ez_I h2 69 6).toInt.toNat (nL (ez_I h2 44)) 288 = none := qn; rw [(show ez_I h2 3 = ez_I h 3 from zW_fn F 3 x56_22 x56_23), (show ez_I h2 2 1 = ez_I h 2 1 from zW_f F x56_20 x56_21), (show ez_I h2 44 = ez_I h 44 from zW_fn F 44 x56_24 x56_19), show (ez_I h2 69 6).toInt.toNat = p2 by omega] at q2; exact A_sp.trans (rwL_n (by omega) (by omega) (rwS_0 q2))) hh (zW_tr F (zW_mono FF x56_31 x56_32 x56_6))) (fun h6 x8 F7 q9 k10 k11 k12 => ?_)
          have sdx8 : sdR (tI (ez_I h2 3)) (ez_I h2 2 1).toInt.toNat (ez_I h2 69 6).toInt.toNat (nL (ez_I h2 44)) 288 = some (x8.toInt.toNat, q9) := k10
          rw [(show ez_I h2 3 = ez_I h 3 from zW_fn F 3 x56_22 x56_23), (show ez_I h2 2 1 = ez_I h 2 1 from zW_f F x56_20 x56_21), (show ez_I h2 44 = ez_I h 44 from zW_fn F 44 x56_24 x56_19), show (ez_I h2 69 6).toInt.toNat = p2 by omega] at sdx8
          have rx8 := z_rng x8
          have sox8 := sdR_ok sdx8
          have ssx8 := sdR_s sdx8
          have S13 := zW_sh F7 S2
          have F14 := zW_tr F (zW_mono F7 (x56_31) (x56_32) (x56_6))
          have r15 := z_rng (ez_I h6 69 2)
          have r16 := z_rng (ez_I h6 69 3)
          have r17 := z_rng (ez_I h6 69 6)
          have A18 : rwJ (ez_I h6 70) r a.toInt.toNat := by rw [zW_fn F7 70 (fun c => c) (x56_33)]; exact A_rw
          refine gw_st rfl rfl rfl ?_
          show ez_gw _ _ _ _ _ _ _ _ [some (.ref 69), some (.ref 2), some (.int z), some (.int a), some (.int n), some (.int x8), l6, l7, l8, l9] _ _ _
          refine gw_ld rfl rfl ?_
          refine z_C (m := 16) rfl rfl (fun x19 ex19 => ?_)
          refine z_b2 (fun c20 => ?_) (fun c20 => ?_)
          · have c20 : x8.toInt ≠ x19.toInt := c20
            refine gw_skip _ ?_
            have s19 : x8.toInt.toNat < 19 := by
              by_cases c : x8.toInt.toNat < 19
              · exact c
              · have := hL0 x8.toInt.toNat (by omega) ssx8.1; omega
            refine gw_ld rfl rfl ?_
            refine gw_st rfl rfl rfl ?_
            show ez_gw _ _ _ _ _ _ _ _ [some (.ref 69), some (.ref 2), some (.int z), some (.int a), some (.int n), some (.int x8), some (.int x8), l7, l8, l9] _ _ _
            refine z_C (m := 1) rfl rfl (fun x21 ex21 => ?_)
            refine gw_st rfl rfl rfl ?_
            show ez_gw _ _ _ _ _ _ _ _ [some (.ref 69), some (.ref 2), some (.int z), some (.int a), some (.int n), some (.int x8), some (.int x8), some (.int x21), l8, l9] _ _ _
            refine gw_ld rfl rfl ?_
            refine z_C (m := 16) rfl rfl (fun x22 ex22 => ?_)
            refine z_sub (by omega) (fun x23 ex23 => ?_)
            refine gw_st rfl rfl rfl ?_
            show ez_gw _ _ _ _ _ _ _ _ [some (.ref 69), some (.ref 2), some (.int z), some (.int a), some (.int n), some (.int x8), some (.int x8), some (.int x21), some (.int x23), l9] _ _ _
            refine gw_ld rfl rfl ?_
            refine z_b1 (fun c24 => ?_) (fun c24 => ?_)
            · have c24 : x23.toInt < 0 := c24
              refine gw_skip _ ?_
              refine gw_ld rfl rfl ?_
              refine gw_ld rfl rfl ?_
              refine z_add (by omega) (fun x25 ex25 => ?_)
              refine gw_ld rfl rfl ?_
              refine z_b2 (fun c26 => ?_) (fun c26 => ?_)
              · have c26 : x25.toInt ≤ z.toInt := c26
                refine gw_skip _ ?_
                refine z_C (m := 0) rfl rfl (fun x27 ex27 => ?_)
                refine gw_st rfl rfl rfl ?_
                show ez_gw _ _ _ _ _ _ _ _ [some (.ref 69), some (.ref 2), some (.int z), some (.int a), some (.int n), some (.int x8), some (.int x8), some (.int x21), some (.int x23), some (.int x27)] _ _ _
                exact ez_Wp_at (ih.2 h6 a n x8 x8 x21 x23 x27 q9 r a.toInt.toNat F14 (by omega) (A_sp.trans ((rwL_s (G := z.toInt.toNat - a.toInt.toNat - 1) (by omega) (by omega) (rwS_l sdx8 (by omega))).trans (by rw [show x21.toInt.toNat = 1 by omega]; exact rwL_f hL0 _ _ _ _ _ (by show z.toInt.toNat ≤ z.toInt.toNat - a.toInt.toNat - 1 + (a.toInt.toNat + 1); omega) (by show z.toInt.toNat ≤ z.toInt.toNat - (a.toInt.toNat + 1) + (a.toInt.toNat + 1); omega)))) ((by rw [show x27.toInt.toNat = 0 by omega]; exact rwJ_z A18 rfl)) (by omega)) rfl
              · have c26 : ¬ (x25.toInt ≤ z.toInt) := c26
                refine gw_ld rfl rfl ?_
                refine z_C (m := 6) rfl rfl (fun x28 ex28 => ?_)
                refine z_cl rfl rfl rfl rfl rfl rfl rfl rfl rfl rfl rfl (zT S13 (by decide) rfl) ?_
                exact c_fail (i := x28) S13 (zMw F14 hM) (by omega) (fun hh FF => Ke (by exfalso; omega) hh (zW_tr F14 (zW_mono FF x56_31 x56_32 x56_6))) trivial
            · have c24 : ¬ (x23.toInt < 0) := c24
              refine gw_ld rfl rfl ?_
              refine z_gs ?_
              refine z_alE (n := 3) (by rw [hE 6]; rfl) (by omega) (fun x29 ex29 => ?_)
              refine z_b2 (fun c30 => ?_) (fun c30 => ?_)
              · have c30 : x29.toInt ≤ x23.toInt := c30
                refine gw_skip _ ?_
                exfalso; omega
              · have c30 : ¬ (x29.toInt ≤ x23.toInt) := c30
                refine gw_ld rfl rfl ?_
                refine z_b1 (fun c31 => ?_) (fun c31 => ?_)
                · have c31 : x23.toInt ≠ 0 := c31
                  refine gw_skip _ ?_
                  refine z_C (m := 0) rfl rfl (fun x32 ex32 => ?_)
                  refine gw_st rfl rfl rfl ?_
                  show ez_gw _ _ _ _ _ _ _ _ [some (.ref 69), some (.ref 2), some (.int z), some (.int a), some (.int n), some (.int x8), some (.int x32), some (.int x21), some (.int x23), l9] _ _ _
                  refine z_gs ?_
                  refine gw_ld rfl rfl ?_
                  refine z_iaE (n := 3) (hE 6) (by omega) ?_
                  generalize ex33 : (tz_ar (6 + 1)).getD x23.toInt.toNat 0 = x33
                  have rx33 := z_rng x33
                  have ox33 := tz_RB (n := x23.toInt.toNat) (by omega)
                  rw [ex33] at ox33
                  refine gw_ld rfl rfl ?_
                  refine gw_ld rfl rfl ?_
                  refine z_gs ?_
                  refine gw_ld rfl rfl ?_
                  refine z_iaE (n := 3) (hE 8) (by omega) ?_
                  generalize ex34 : (tz_ar (8 + 1)).getD x23.toInt.toNat 0 = x34
                  have rx34 := z_rng x34
                  have ox34 := tz_RE (n := x23.toInt.toNat) (by omega)
                  rw [ex34] at ox34
                  refine z_cl rfl rfl rfl rfl rfl rfl rfl rfl rfl rfl rfl (zT S13 (by decide) rfl) ?_
                  have hrb := RB_3 x23.toInt.toNat (by omega)
                  have hrn : REf (x8.toInt.toNat - 16) = x34.toInt.toNat := by rw [show x8.toInt.toNat - 16 = x23.toInt.toNat by omega]; omega
                  refine c_tb (n := x34) S13 (zMw F14 hM) (by rw [(show ez_I h6 2 1 = ez_I h 2 1 from zW_f F14 x56_20 x56_21)]; exact hz) (by rw [(show ez_I h6 2 1 = ez_I h 2 1 from zW_f F14 x56_20 x56_21), (show ez_I h6 3 = ez_I h 3 from zW_fn F14 3 x56_22 x56_23)]; exact hb) (by rw [(show ez_I h6 2 1 = ez_I h 2 1 from zW_f F14 x56_20 x56_21)]; omega) (by omega) (by rw [(show ez_I h6 2 1 = ez_I h 2 1 from zW_f F14 x56_20 x56_21)]; exact fun q hh FF => Ke (A_sp.trans (rwL_n (by omega) (by omega) (rwS_n sdx8 (by omega) (.inr (.inl (by omega)))))) hh (zW_tr F14 (zW_mono FF x56_31 x56_32 x56_6))) (fun h35 x37 F36 k38 k39 k40 => ?_)
                  rw [(show ez_I h6 3 = ez_I h 3 from zW_fn F14 3 x56_22 x56_23), show x34.toInt.toNat = x34.toInt.toNat by omega, show (ez_I h6 69 6).toInt.toNat = q9 by omega] at k39
                  rw [(show ez_I h6 2 1 = ez_I h 2 1 from zW_f F14 x56_20 x56_21)] at k38
                  have rx37 := z_rng x37
                  have vlx37 := vB_lt (tI (ez_I h 3)) (q9) (x34.toInt.toNat)
                  have vpx37 := Nat.pow_le_pow_right (n := 2) (by decide) (show x34.toInt.toNat ≤ 16 by omega)
                  have S41 := zW_sh F36 S13
                  have F42 := zW_tr F14 (zW_mono F36 (x56_31) (x56_32) (x56_6))
                  have r43 := z_rng (ez_I h35 69 2)
                  have r44 := z_rng (ez_I h35 69 3)
                  have r45 := z_rng (ez_I h35 69 6)
                  have A46 : rwJ (ez_I h35 70) r a.toInt.toNat := by rw [zW_fn F36 70 (fun c => c) (x56_33)]; exact A18
                  clear A18
                  refine z_add (by omega) (fun x47 ex47 => ?_)
                  refine gw_st rfl rfl rfl ?_
                  show ez_gw _ _ _ _ _ _ _ _ [some (.ref 69), some (.ref 2), some (.int z), some (.int a), some (.int n), some (.int x8), some (.int x32), some (.int x47), some (.int x23), l9] _ _ _
                  have hre : REf (x8.toInt.toNat - 16) = x34.toInt.toNat := by rw [show x8.toInt.toNat - 16 = x23.toInt.toNat by omega]; omega
                  have hti : x47.toInt.toNat = RBf (x8.toInt.toNat - 16) + vB (tI (ez_I h 3)) q9 (REf (x8.toInt.toNat - 16)) := by rw [hre, show x8.toInt.toNat - 16 = x23.toInt.toNat by omega]; omega
                  have hvi : x32.toInt.toNat = if x8.toInt.toNat = 16 then r (a.toInt.toNat - 1) else 0 := by rw [if_neg (by omega)]; omega
                  have hv15 : 0 ≤ x32.toInt ∧ x32.toInt ≤ 15 := by omega
                  refine gw_ld rfl rfl ?_
                  refine gw_ld rfl rfl ?_
                  refine z_add (by omega) (fun x48 ex48 => ?_)
                  refine gw_ld rfl rfl ?_
                  refine z_b2 (fun c49 => ?_) (fun c49 => ?_)
                  · have c49 : x48.toInt ≤ z.toInt := c49
                    refine gw_skip _ ?_
                    refine z_C (m := 0) rfl rfl (fun x50 ex50 => ?_)
                    refine gw_st rfl rfl rfl ?_
                    show ez_gw _ _ _ _ _ _ _ _ [some (.ref 69), some (.ref 2), some (.int z), some (.int a), some (.int n), some (.int x8), some (.int x32), some (.int x47), some (.int x23), some (.int x50)] _ _ _
                    exact ez_Wp_at (ih.2 h35 a n x8 x32 x47 x23 x50 (q9 + REf (x8.toInt.toNat - 16)) r a.toInt.toNat F42 (by omega) (A_sp.trans ((rwL_s (G := z.toInt.toNat - a.toInt.toNat - 1) (by omega) (by omega) (rwS_y (t := x47.toInt.toNat) (v := x32.toInt.toNat) (e := REf (x8.toInt.toNat - 16)) sdx8 (by omega) (by omega) rfl (by omega) hti (by omega) hvi)).trans (rwL_f hL0 _ _ _ _ _ (by show z.toInt.toNat ≤ z.toInt.toNat - a.toInt.toNat - 1 + (a.toInt.toNat + x47.toInt.toNat); omega) (by show z.toInt.toNat ≤ z.toInt.toNat - (a.toInt.toNat + x47.toInt.toNat) + (a.toInt.toNat + x47.toInt.toNat); omega)))) ((by rw [show x50.toInt.toNat = 0 by omega]; exact rwJ_z A46 rfl)) (by omega)) rfl
                  · have c49 : ¬ (x48.toInt ≤ z.toInt) := c49
                    refine gw_ld rfl rfl ?_
                    refine z_C (m := 6) rfl rfl (fun x51 ex51 => ?_)
                    refine z_cl rfl rfl rfl rfl rfl rfl rfl rfl rfl rfl rfl (zT S41 (by decide) rfl) ?_
                    exact c_fail (i := x51) S41 (zMw F42 hM) (by omega) (fun hh FF => Ke (A_sp.trans (rwL_n (by omega) (by omega) (rwS_n sdx8 (by omega) (.inr (.inr (by omega)))))) hh (zW_tr F42 (zW_mono FF x56_31 x56_32 x56_6))) trivial
                · have c31 : ¬ (x23.toInt ≠ 0) := c31
                  refine gw_ld rfl rfl ?_
                  refine z_b1 (fun c52 => ?_) (fun c52 => ?_)
                  · have c52 : a.toInt ≤ 0 := c52
                    refine gw_skip _ ?_
                    refine z_C (m := 0) rfl rfl (fun x53 ex53 => ?_)
                    refine gw_st rfl rfl rfl ?_
                    show ez_gw _ _ _ _ _ _ _ _ [some (.ref 69), some (.ref 2), some (.int z), some (.int a), some (.int n), some (.int x8), some (.int x53), some (.int x21), some (.int x23), l9] _ _ _
                    refine z_gs ?_
                    refine gw_ld rfl rfl ?_
                    refine z_iaE (n := 3) (hE 6) (by omega) ?_
                    generalize ex54 : (tz_ar (6 + 1)).getD x23.toInt.toNat 0 = x54
                    have rx54 := z_rng x54
                    have ox54 := tz_RB (n := x23.toInt.toNat) (by omega)
                    rw [ex54] at ox54
                    refine gw_ld rfl rfl ?_
                    refine gw_ld rfl rfl ?_
                    refine z_gs ?_
                    refine gw_ld rfl rfl ?_
                    refine z_iaE (n := 3) (hE 8) (by omega) ?_
                    generalize ex55 : (tz_ar (8 + 1)).getD x23.toInt.toNat 0 = x55
                    have rx55 := z_rng x55
                    have ox55 := tz_RE (n := x23.toInt.toNat) (by omega)
                    rw [ex55] at ox55
                    refine z_cl rfl rfl rfl rfl rfl rfl rfl rfl rfl rfl rfl (zT S13 (by decide) rfl) ?_
                    have hrb := RB_3 x23.toInt.toNat (by omega)
                    have hrn : REf (x8.toInt.toNat - 16) = x55.toInt.toNat := by rw [show x8.toInt.toNat - 16 = x23.toInt.toNat by omega]; omega
                    refine c_tb (n := x55) S13 (zMw F14 hM) (by rw [(show ez_I h6 2 1 = ez_I h 2 1 from zW_f F14 x56_20 x56_21)]; exact hz) (by rw [(show ez_I h6 2 1 = ez_I h 2 1 from zW_f F14 x56_20 x56_21), (show ez_I h6 3 = ez_I h 3 from zW_fn F14 3 x56_22 x56_23)]; exact hb) (by rw [(show ez_I h6 2 1 = ez_I h 2 1 from zW_f F14 x56_20 x56_21)]; omega) (by omega) (by rw [(show ez_I h6 2 1 = ez_I h 2 1 from zW_f F14 x56_20 x56_21)]; exact fun q hh FF => Ke (A_sp.trans (rwL_n (by omega) (by omega) (rwS_n sdx8 (by omega) (.inr (.inl (by omega)))))) hh (zW_tr F14 (zW_mono FF x56_31 x56_32 x56_6))) (fun h56 x58 F57 k59 k60 k61 => ?_)
                    rw [(show ez_I h6 3 = ez_I h 3 from zW_fn F14 3 x56_22 x56_23), show x55.toInt.toNat = x55.toInt.toNat by omega, show (ez_I h6 69 6).toInt.toNat = q9 by omega] at k60
                    rw [(show ez_I h6 2 1 = ez_I h 2 1 from zW_f F14 x56_20 x56_21)] at k59
                    have rx58 := z_rng x58
                    have vlx58 := vB_lt (tI (ez_I h 3)) (q9) (x55.toInt.toNat)
                    have vpx58 := Nat.pow_le_pow_right (n := 2) (by decide) (show x55.toInt.toNat ≤ 16 by omega)
                    have S62 := zW_sh F57 S13
                    have F63 := zW_tr F14 (zW_mono F57 (x56_31) (x56_32) (x56_6))
                    have r64 := z_rng (ez_I h56 69 2)
                    have r65 := z_rng (ez_I h56 69 3)
                    have r66 := z_rng (ez_I h56 69 6)
                    have A67 : rwJ (ez_I h56 70) r a.toInt.toNat := by rw [zW_fn F57 70 (fun c => c) (x56_33)]; exact A18
                    clear A18
                    refine z_add (by omega) (fun x68 ex68 => ?_)
                    refine gw_st rfl rfl rfl ?_
                    show ez_gw _ _ _ _ _ _ _ _ [some (.ref 69), some (.ref 2), some (.int z), some (.int a), some (.int n), some (.int x8), some (.int x53), some (.int x68), some (.int x23), l9] _ _ _
                    have hre : REf (x8.toInt.toNat - 16) = x55.toInt.toNat := by rw [show x8.toInt.toNat - 16 = x23.toInt.toNat by omega]; omega
                    have hti : x68.toInt.toNat = RBf (x8.toInt.toNat - 16) + vB (tI (ez_I h 3)) q9 (REf (x8.toInt.toNat - 16)) := by rw [hre, show x8.toInt.toNat - 16 = x23.toInt.toNat by omega]; omega
                    have hvi : x53.toInt.toNat = if x8.toInt.toNat = 16 then r (a.toInt.toNat - 1) else 0 := by rw [if_neg (by omega)]; omega
                    have hv15 : 0 ≤ x53.toInt ∧ x53.toInt ≤ 15 := by omega
                    refine gw_ld rfl rfl ?_
                    refine gw_ld rfl rfl ?_
                    refine z_add (by omega) (fun x69 ex69 => ?_)
                    refine gw_ld rfl rfl ?_
                    refine z_b2 (fun c70 => ?_) (fun c70 => ?_)
                    · have c70 : x69.toInt ≤ z.toInt := c70
                      refine gw_skip _ ?_
                      refine z_C (m := 0) rfl rfl (fun x71 ex71 => ?_)
                      refine gw_st rfl rfl rfl ?_
                      show ez_gw _ _ _ _ _ _ _ _ [some (.ref 69), some (.ref 2), some (.int z), some (.int a), some (.int n), some (.int x8), some (.int x53), some (.int x68), some (.int x23), some (.int x71)] _ _ _
                      exact ez_Wp_at (ih.2 h56 a n x8 x53 x68 x23 x71 (q9 + REf (x8.toInt.toNat - 16)) r a.toInt.toNat F63 (by omega) (A_sp.trans ((rwL_s (G := z.toInt.toNat - a.toInt.toNat - 1) (by omega) (by omega) (rwS_y (t := x68.toInt.toNat) (v := x53.toInt.toNat) (e := REf (x8.toInt.toNat - 16)) sdx8 (by omega) (by omega) rfl (by omega) hti (by omega) hvi)).trans (rwL_f hL0 _ _ _ _ _ (by show z.toInt.toNat ≤ z.toInt.toNat - a.toInt.toNat - 1 + (a.toInt.toNat + x68.toInt.toNat); omega) (by show z.toInt.toNat ≤ z.toInt.toNat - (a.toInt.toNat + x68.toInt.toNat) + (a.toInt.toNat + x68.toInt.toNat); omega)))) ((by rw [show x71.toInt.toNat = 0 by omega]; exact rwJ_z A67 rfl)) (by omega)) rfl
                    · have c70 : ¬ (x69.toInt ≤ z.toInt) := c70
                      refine gw_ld rfl rfl ?_
                      refine z_C (m := 6) rfl rfl (fun x72 ex72 => ?_)
                      refine z_cl rfl rfl rfl rfl rfl rfl rfl rfl rfl rfl rfl (zT S62 (by decide) rfl) ?_
                      exact c_fail (i := x72) S62 (zMw F63 hM) (by omega) (fun hh FF => Ke (A_sp.trans (rwL_n (by omega) (by omega) (rwS_n sdx8 (by omega) (.inr (.inr (by omega)))))) hh (zW_tr F63 (zW_mono FF x56_31 x56_32 x56_6))) trivial
                  · have c52 : ¬ (a.toInt ≤ 0) := c52
                    refine gw_ld rfl rfl ?_
                    refine z_gR (q := 70) (zT S13 (by decide) rfl) (zRf S13 (by decide) (by decide) rfl) (by decide) ?_
                    refine gw_ld rfl rfl ?_
                    refine z_C (m := 1) rfl rfl (fun x73 ex73 => ?_)
                    refine z_sub (by omega) (fun x74 ex74 => ?_)
                    refine z_ia (n := 316) (zT S13 (by decide) rfl) (zN S13 (by decide) rfl) (by omega) ?_
                    generalize ex75 : ez_I h6 70 x74.toInt.toNat = x75
                    have rx75 := z_rng x75
                    have yr := A18 (a.toInt.toNat - 1) (by omega)
                    rw [show a.toInt.toNat - 1 = x74.toInt.toNat by omega, ex75] at yr
                    rw [show x74.toInt.toNat = a.toInt.toNat - 1 by omega] at yr
                    refine z_go ?_
                    refine gw_skip _ ?_
                    refine gw_st rfl rfl rfl ?_
                    show ez_gw _ _ _ _ _ _ _ _ [some (.ref 69), some (.ref 2), some (.int z), some (.int a), some (.int n), some (.int x8), some (.int x75), some (.int x21), some (.int x23), l9] _ _ _
                    refine z_gs ?_
                    refine gw_ld rfl rfl ?_
                    refine z_iaE (n := 3) (hE 6) (by omega) ?_
                    generalize ex76 : (tz_ar (6 + 1)).getD x23.toInt.toNat 0 = x76
                    have rx76 := z_rng x76
                    have ox76 := tz_RB (n := x23.toInt.toNat) (by omega)
                    rw [ex76] at ox76
                    refine gw_ld rfl rfl ?_
                    refine gw_ld rfl rfl ?_
                    refine z_gs ?_
                    refine gw_ld rfl rfl ?_
                    refine z_iaE (n := 3) (hE 8) (by omega) ?_
                    generalize ex77 : (tz_ar (8 + 1)).getD x23.toInt.toNat 0 = x77
                    have rx77 := z_rng x77
                    have ox77 := tz_RE (n := x23.toInt.toNat) (by omega)
                    rw [ex77] at ox77
                    refine z_cl rfl rfl rfl rfl rfl rfl rfl rfl rfl rfl rfl (zT S13 (by decide) rfl) ?_
                    have hrb := RB_3 x23.toInt.toNat (by omega)
                    have hrn : REf (x8.toInt.toNat - 16) = x77.toInt.toNat := by rw [show x8.toInt.toNat - 16 = x23.toInt.toNat by omega]; omega
                    refine c_tb (n := x77) S13 (zMw F14 hM) (by rw [(show ez_I h6 2 1 = ez_I h 2 1 from zW_f F14 x56_20 x56_21)]; exact hz) (by rw [(show ez_I h6 2 1 = ez_I h 2 1 from zW_f F14 x56_20 x56_21), (show ez_I h6 3 = ez_I h 3 from zW_fn F14 3 x56_22 x56_23)]; exact hb) (by rw [(show ez_I h6 2 1 = ez_I h 2 1 from zW_f F14 x56_20 x56_21)]; omega) (by omega) (by rw [(show ez_I h6 2 1 = ez_I h 2 1 from zW_f F14 x56_20 x56_21)]; exact fun q hh FF => Ke (A_sp.trans (rwL_n (by omega) (by omega) (rwS_n sdx8 (by omega) (.inr (.inl (by omega)))))) hh (zW_tr F14 (zW_mono FF x56_31 x56_32 x56_6))) (fun h78 x80 F79 k81 k82 k83 => ?_)
                    rw [(show ez_I h6 3 = ez_I h 3 from zW_fn F14 3 x56_22 x56_23), show x77.toInt.toNat = x77.toInt.toNat by omega, show (ez_I h6 69 6).toInt.toNat = q9 by omega] at k82
                    rw [(show ez_I h6 2 1 = ez_I h 2 1 from zW_f F14 x56_20 x56_21)] at k81
                    have rx80 := z_rng x80
                    have vlx80 := vB_lt (tI (ez_I h 3)) (q9) (x77.toInt.toNat)
                    have vpx80 := Nat.pow_le_pow_right (n := 2) (by decide) (show x77.toInt.toNat ≤ 16 by omega)
                    have S84 := zW_sh F79 S13
                    have F85 := zW_tr F14 (zW_mono F79 (x56_31) (x56_32) (x56_6))
                    have r86 := z_rng (ez_I h78 69 2)
                    have r87 := z_rng (ez_I h78 69 3)
                    have r88 := z_rng (ez_I h78 69 6)
                    have A89 : rwJ (ez_I h78 70) r a.toInt.toNat := by rw [zW_fn F79 70 (fun c => c) (x56_33)]; exact A18
                    clear A18
                    refine z_add (by omega) (fun x90 ex90 => ?_)
                    refine gw_st rfl rfl rfl ?_
                    show ez_gw _ _ _ _ _ _ _ _ [some (.ref 69), some (.ref 2), some (.int z), some (.int a), some (.int n), some (.int x8), some (.int x75), some (.int x90), some (.int x23), l9] _ _ _
                    have hre : REf (x8.toInt.toNat - 16) = x77.toInt.toNat := by rw [show x8.toInt.toNat - 16 = x23.toInt.toNat by omega]; omega
                    have hti : x90.toInt.toNat = RBf (x8.toInt.toNat - 16) + vB (tI (ez_I h 3)) q9 (REf (x8.toInt.toNat - 16)) := by rw [hre, show x8.toInt.toNat - 16 = x23.toInt.toNat by omega]; omega
                    have hvi : x75.toInt.toNat = if x8.toInt.toNat = 16 then r (a.toInt.toNat - 1) else 0 := by rw [if_pos (by omega)]; omega
                    have hv15 : 0 ≤ x75.toInt ∧ x75.toInt ≤ 15 := by omega
                    refine gw_ld rfl rfl ?_
                    refine gw_ld rfl rfl ?_
                    refine z_add (by omega) (fun x91 ex91 => ?_)
                    refine gw_ld rfl rfl ?_
                    refine z_b2 (fun c92 => ?_) (fun c92 => ?_)
                    · have c92 : x91.toInt ≤ z.toInt := c92
                      refine gw_skip _ ?_
                      refine z_C (m := 0) rfl rfl (fun x93 ex93 => ?_)
                      refine gw_st rfl rfl rfl ?_
                      show ez_gw _ _ _ _ _ _ _ _ [some (.ref 69), some (.ref 2), some (.int z), some (.int a), some (.int n), some (.int x8), some (.int x75), some (.int x90), some (.int x23), some (.int x93)] _ _ _
                      exact ez_Wp_at (ih.2 h78 a n x8 x75 x90 x23 x93 (q9 + REf (x8.toInt.toNat - 16)) r a.toInt.toNat F85 (by omega) (A_sp.trans ((rwL_s (G := z.toInt.toNat - a.toInt.toNat - 1) (by omega) (by omega) (rwS_y (t := x90.toInt.toNat) (v := x75.toInt.toNat) (e := REf (x8.toInt.toNat - 16)) sdx8 (by omega) (by omega) rfl (by omega) hti (by omega) hvi)).trans (rwL_f hL0 _ _ _ _ _ (by show z.toInt.toNat ≤ z.toInt.toNat - a.toInt.toNat - 1 + (a.toInt.toNat + x90.toInt.toNat); omega) (by show z.toInt.toNat ≤ z.toInt.toNat - (a.toInt.toNat + x90.toInt.toNat) + (a.toInt.toNat + x90.toInt.toNat); omega)))) ((by rw [show x93.toInt.toNat = 0 by omega]; exact rwJ_z A89 rfl)) (by omega)) rfl
                    · have c92 : ¬ (x91.toInt ≤ z.toInt) := c92
                      refine gw_ld rfl rfl ?_
                      refine z_C (m := 6) rfl rfl (fun x94 ex94 => ?_)
                      refine z_cl rfl rfl rfl rfl rfl rfl rfl rfl rfl rfl rfl (zT S84 (by decide) rfl) ?_
                      exact c_fail (i := x94) S84 (zMw F85 hM) (by omega) (fun hh FF => Ke (A_sp.trans (rwL_n (by omega) (by omega) (rwS_n sdx8 (by omega) (.inr (.inr (by omega)))))) hh (zW_tr F85 (zW_mono FF x56_31 x56_32 x56_6))) trivial
          · have c20 : ¬ (x8.toInt ≠ x19.toInt) := c20
            refine gw_ld rfl rfl ?_
            refine z_b1 (fun c95 => ?_) (fun c95 => ?_)
            · have c95 : a.toInt ≠ 0 := c95
              refine gw_skip _ ?_
              have s19 : x8.toInt.toNat < 19 := by
                by_cases c : x8.toInt.toNat < 19
                · exact c
                · have := hL0 x8.toInt.toNat (by omega) ssx8.1; omega
              refine gw_ld rfl rfl ?_
              refine gw_st rfl rfl rfl ?_
              show ez_gw _ _ _ _ _ _ _ _ [some (.ref 69), some (.ref 2), some (.int z), some (.int a), some (.int n), some (.int x8), some (.int x8), l7, l8, l9] _ _ _
              refine z_C (m := 1) rfl rfl (fun x96 ex96 => ?_)
              refine gw_st rfl rfl rfl ?_
              show ez_gw _ _ _ _ _ _ _ _ [some (.ref 69), some (.ref 2), some (.int z), some (.int a), some (.int n), some (.int x8), some (.int x8), some (.int x96), l8, l9] _ _ _
              refine gw_ld rfl rfl ?_
              refine z_C (m := 16) rfl rfl (fun x97 ex97 => ?_)
              refine z_sub (by omega) (fun x98 ex98 => ?_)
              refine gw_st rfl rfl rfl ?_
              show ez_gw _ _ _ _ _ _ _ _ [some (.ref 69), some (.ref 2), some (.int z), some (.int a), some (.int n), some (.int x8), some (.int x8), some (.int x96), some (.int x98), l9] _ _ _
              refine gw_ld rfl rfl ?_
              refine z_b1 (fun c99 => ?_) (fun c99 => ?_)
              · have c99 : x98.toInt < 0 := c99
                refine gw_skip _ ?_
                refine gw_ld rfl rfl ?_
                refine gw_ld rfl rfl ?_
                refine z_add (by omega) (fun x100 ex100 => ?_)
                refine gw_ld rfl rfl ?_
                refine z_b2 (fun c101 => ?_) (fun c101 => ?_)
                · have c101 : x100.toInt ≤ z.toInt := c101
                  refine gw_skip _ ?_
                  refine z_C (m := 0) rfl rfl (fun x102 ex102 => ?_)
                  refine gw_st rfl rfl rfl ?_
                  show ez_gw _ _ _ _ _ _ _ _ [some (.ref 69), some (.ref 2), some (.int z), some (.int a), some (.int n), some (.int x8), some (.int x8), some (.int x96), some (.int x98), some (.int x102)] _ _ _
                  exact ez_Wp_at (ih.2 h6 a n x8 x8 x96 x98 x102 q9 r a.toInt.toNat F14 (by omega) (A_sp.trans ((rwL_s (G := z.toInt.toNat - a.toInt.toNat - 1) (by omega) (by omega) (rwS_l sdx8 (by omega))).trans (by rw [show x96.toInt.toNat = 1 by omega]; exact rwL_f hL0 _ _ _ _ _ (by show z.toInt.toNat ≤ z.toInt.toNat - a.toInt.toNat - 1 + (a.toInt.toNat + 1); omega) (by show z.toInt.toNat ≤ z.toInt.toNat - (a.toInt.toNat + 1) + (a.toInt.toNat + 1); omega)))) ((by rw [show x102.toInt.toNat = 0 by omega]; exact rwJ_z A18 rfl)) (by omega)) rfl
                · have c101 : ¬ (x100.toInt ≤ z.toInt) := c101
                  refine gw_ld rfl rfl ?_
                  refine z_C (m := 6) rfl rfl (fun x103 ex103 => ?_)
                  refine z_cl rfl rfl rfl rfl rfl rfl rfl rfl rfl rfl rfl (zT S13 (by decide) rfl) ?_
                  exact c_fail (i := x103) S13 (zMw F14 hM) (by omega) (fun hh FF => Ke (by exfalso; omega) hh (zW_tr F14 (zW_mono FF x56_31 x56_32 x56_6))) trivial
              · have c99 : ¬ (x98.toInt < 0) := c99
                refine gw_ld rfl rfl ?_
                refine z_gs ?_
                refine z_alE (n := 3) (by rw [hE 6]; rfl) (by omega) (fun x104 ex104 => ?_)
                refine z_b2 (fun c105 => ?_) (fun c105 => ?_)
                · have c105 : x104.toInt ≤ x98.toInt := c105
                  refine gw_skip _ ?_
                  exfalso; omega
                · have c105 : ¬ (x104.toInt ≤ x98.toInt) := c105
                  refine gw_ld rfl rfl ?_
                  refine z_b1 (fun c106 => ?_) (fun c106 => ?_)
                  · have c106 : x98.toInt ≠ 0 := c106
                    refine gw_skip _ ?_
                    refine z_C (m := 0) rfl rfl (fun x107 ex107 => ?_)
                    refine gw_st rfl rfl rfl ?_
                    show ez_gw _ _ _ _ _ _ _ _ [some (.ref 69), some (.ref 2), some (.int z), some (.int a), some (.int n), some (.int x8), some (.int x107), some (.int x96), some (.int x98), l9] _ _ _
                    refine z_gs ?_
                    refine gw_ld rfl rfl ?_
                    refine z_iaE (n := 3) (hE 6) (by omega) ?_
                    generalize ex108 : (tz_ar (6 + 1)).getD x98.toInt.toNat 0 = x108
                    have rx108 := z_rng x108
                    have ox108 := tz_RB (n := x98.toInt.toNat) (by omega)
                    rw [ex108] at ox108
                    refine gw_ld rfl rfl ?_
                    refine gw_ld rfl rfl ?_
                    refine z_gs ?_
                    refine gw_ld rfl rfl ?_
                    refine z_iaE (n := 3) (hE 8) (by omega) ?_
                    generalize ex109 : (tz_ar (8 + 1)).getD x98.toInt.toNat 0 = x109
                    have rx109 := z_rng x109
                    have ox109 := tz_RE (n := x98.toInt.toNat) (by omega)
                    rw [ex109] at ox109
                    refine z_cl rfl rfl rfl rfl rfl rfl rfl rfl rfl rfl rfl (zT S13 (by decide) rfl) ?_
                    have hrb := RB_3 x98.toInt.toNat (by omega)
                    have hrn : REf (x8.toInt.toNat - 16) = x109.toInt.toNat := by rw [show x8.toInt.toNat - 16 = x98.toInt.toNat by omega]; omega
                    refine c_tb (n := x109) S13 (zMw F14 hM) (by rw [(show ez_I h6 2 1 = ez_I h 2 1 from zW_f F14 x56_20 x56_21)]; exact hz) (by rw [(show ez_I h6 2 1 = ez_I h 2 1 from zW_f F14 x56_20 x56_21), (show ez_I h6 3 = ez_I h 3 from zW_fn F14 3 x56_22 x56_23)]; exact hb) (by rw [(show ez_I h6 2 1 = ez_I h 2 1 from zW_f F14 x56_20 x56_21)]; omega) (by omega) (by rw [(show ez_I h6 2 1 = ez_I h 2 1 from zW_f F14 x56_20 x56_21)]; exact fun q hh FF => Ke (A_sp.trans (rwL_n (by omega) (by omega) (rwS_n sdx8 (by omega) (.inr (.inl (by omega)))))) hh (zW_tr F14 (zW_mono FF x56_31 x56_32 x56_6))) (fun h110 x112 F111 k113 k114 k115 => ?_)
                    rw [(show ez_I h6 3 = ez_I h 3 from zW_fn F14 3 x56_22 x56_23), show x109.toInt.toNat = x109.toInt.toNat by omega, show (ez_I h6 69 6).toInt.toNat = q9 by omega] at k114
                    rw [(show ez_I h6 2 1 = ez_I h 2 1 from zW_f F14 x56_20 x56_21)] at k113
                    have rx112 := z_rng x112
                    have vlx112 := vB_lt (tI (ez_I h 3)) (q9) (x109.toInt.toNat)
                    have vpx112 := Nat.pow_le_pow_right (n := 2) (by decide) (show x109.toInt.toNat ≤ 16 by omega)
                    have S116 := zW_sh F111 S13
                    have F117 := zW_tr F14 (zW_mono F111 (x56_31) (x56_32) (x56_6))
                    have r118 := z_rng (ez_I h110 69 2)
                    have r119 := z_rng (ez_I h110 69 3)
                    have r120 := z_rng (ez_I h110 69 6)
                    have A121 : rwJ (ez_I h110 70) r a.toInt.toNat := by rw [zW_fn F111 70 (fun c => c) (x56_33)]; exact A18
                    clear A18
                    refine z_add (by omega) (fun x122 ex122 => ?_)
                    refine gw_st rfl rfl rfl ?_
                    show ez_gw _ _ _ _ _ _ _ _ [some (.ref 69), some (.ref 2), some (.int z), some (.int a), some (.int n), some (.int x8), some (.int x107), some (.int x122), some (.int x98), l9] _ _ _
                    have hre : REf (x8.toInt.toNat - 16) = x109.toInt.toNat := by rw [show x8.toInt.toNat - 16 = x98.toInt.toNat by omega]; omega
                    have hti : x122.toInt.toNat = RBf (x8.toInt.toNat - 16) + vB (tI (ez_I h 3)) q9 (REf (x8.toInt.toNat - 16)) := by rw [hre, show x8.toInt.toNat - 16 = x98.toInt.toNat by omega]; omega
                    have hvi : x107.toInt.toNat = if x8.toInt.toNat = 16 then r (a.toInt.toNat - 1) else 0 := by rw [if_neg (by omega)]; omega
                    have hv15 : 0 ≤ x107.toInt ∧ x107.toInt ≤ 15 := by omega
                    refine gw_ld rfl rfl ?_
                    refine gw_ld rfl rfl ?_
                    refine z_add (by omega) (fun x123 ex123 => ?_)
                    refine gw_ld rfl rfl ?_
                    refine z_b2 (fun c124 => ?_) (fun c124 => ?_)
                    · have c124 : x123.toInt ≤ z.toInt := c124
                      refine gw_skip _ ?_
                      refine z_C (m := 0) rfl rfl (fun x125 ex125 => ?_)
                      refine gw_st rfl rfl rfl ?_
                      show ez_gw _ _ _ _ _ _ _ _ [some (.ref 69), some (.ref 2), some (.int z), some (.int a), some (.int n), some (.int x8), some (.int x107), some (.int x122), some (.int x98), some (.int x125)] _ _ _
                      exact ez_Wp_at (ih.2 h110 a n x8 x107 x122 x98 x125 (q9 + REf (x8.toInt.toNat - 16)) r a.toInt.toNat F117 (by omega) (A_sp.trans ((rwL_s (G := z.toInt.toNat - a.toInt.toNat - 1) (by omega) (by omega) (rwS_y (t := x122.toInt.toNat) (v := x107.toInt.toNat) (e := REf (x8.toInt.toNat - 16)) sdx8 (by omega) (by omega) rfl (by omega) hti (by omega) hvi)).trans (rwL_f hL0 _ _ _ _ _ (by show z.toInt.toNat ≤ z.toInt.toNat - a.toInt.toNat - 1 + (a.toInt.toNat + x122.toInt.toNat); omega) (by show z.toInt.toNat ≤ z.toInt.toNat - (a.toInt.toNat + x122.toInt.toNat) + (a.toInt.toNat + x122.toInt.toNat); omega)))) ((by rw [show x125.toInt.toNat = 0 by omega]; exact rwJ_z A121 rfl)) (by omega)) rfl
                    · have c124 : ¬ (x123.toInt ≤ z.toInt) := c124
                      refine gw_ld rfl rfl ?_
                      refine z_C (m := 6) rfl rfl (fun x126 ex126 => ?_)
                      refine z_cl rfl rfl rfl rfl rfl rfl rfl rfl rfl rfl rfl (zT S116 (by decide) rfl) ?_
                      exact c_fail (i := x126) S116 (zMw F117 hM) (by omega) (fun hh FF => Ke (A_sp.trans (rwL_n (by omega) (by omega) (rwS_n sdx8 (by omega) (.inr (.inr (by omega)))))) hh (zW_tr F117 (zW_mono FF x56_31 x56_32 x56_6))) trivial
                  · have c106 : ¬ (x98.toInt ≠ 0) := c106
                    refine gw_ld rfl rfl ?_
                    refine z_b1 (fun c127 => ?_) (fun c127 => ?_)
                    · have c127 : a.toInt ≤ 0 := c127
                      refine gw_skip _ ?_
                      refine z_C (m := 0) rfl rfl (fun x128 ex128 => ?_)
                      refine gw_st rfl rfl rfl ?_
                      show ez_gw _ _ _ _ _ _ _ _ [some (.ref 69), some (.ref 2), some (.int z), some (.int a), some (.int n), some (.int x8), some (.int x128), some (.int x96), some (.int x98), l9] _ _ _
                      refine z_gs ?_
                      refine gw_ld rfl rfl ?_
                      refine z_iaE (n := 3) (hE 6) (by omega) ?_
                      generalize ex129 : (tz_ar (6 + 1)).getD x98.toInt.toNat 0 = x129
                      have rx129 := z_rng x129
                      have ox129 := tz_RB (n := x98.toInt.toNat) (by omega)
                      rw [ex129] at ox129
                      refine gw_ld rfl rfl ?_
                      refine gw_ld rfl rfl ?_
                      refine z_gs ?_
                      refine gw_ld rfl rfl ?_
                      refine z_iaE (n := 3) (hE 8) (by omega) ?_
                      generalize ex130 : (tz_ar (8 + 1)).getD x98.toInt.toNat 0 = x130
                      have rx130 := z_rng x130
                      have ox130 := tz_RE (n := x98.toInt.toNat) (by omega)
                      rw [ex130] at ox130
                      refine z_cl rfl rfl rfl rfl rfl rfl rfl rfl rfl rfl rfl (zT S13 (by decide) rfl) ?_
                      have hrb := RB_3 x98.toInt.toNat (by omega)
                      have hrn : REf (x8.toInt.toNat - 16) = x130.toInt.toNat := by rw [show x8.toInt.toNat - 16 = x98.toInt.toNat by omega]; omega
                      refine c_tb (n := x130) S13 (zMw F14 hM) (by rw [(show ez_I h6 2 1 = ez_I h 2 1 from zW_f F14 x56_20 x56_21)]; exact hz) (by rw [(show ez_I h6 2 1 = ez_I h 2 1 from zW_f F14 x56_20 x56_21), (show ez_I h6 3 = ez_I h 3 from zW_fn F14 3 x56_22 x56_23)]; exact hb) (by rw [(show ez_I h6 2 1 = ez_I h 2 1 from zW_f F14 x56_20 x56_21)]; omega) (by omega) (by rw [(show ez_I h6 2 1 = ez_I h 2 1 from zW_f F14 x56_20 x56_21)]; exact fun q hh FF => Ke (A_sp.trans (rwL_n (by omega) (by omega) (rwS_n sdx8 (by omega) (.inr (.inl (by omega)))))) hh (zW_tr F14 (zW_mono FF x56_31 x56_32 x56_6))) (fun h131 x133 F132 k134 k135 k136 => ?_)
                      rw [(show ez_I h6 3 = ez_I h 3 from zW_fn F14 3 x56_22 x56_23), show x130.toInt.toNat = x130.toInt.toNat by omega, show (ez_I h6 69 6).toInt.toNat = q9 by omega] at k135
                      rw [(show ez_I h6 2 1 = ez_I h 2 1 from zW_f F14 x56_20 x56_21)] at k134
                      have rx133 := z_rng x133
                      have vlx133 := vB_lt (tI (ez_I h 3)) (q9) (x130.toInt.toNat)
                      have vpx133 := Nat.pow_le_pow_right (n := 2) (by decide) (show x130.toInt.toNat ≤ 16 by omega)
                      have S137 := zW_sh F132 S13
                      have F138 := zW_tr F14 (zW_mono F132 (x56_31) (x56_32) (x56_6))
                      have r139 := z_rng (ez_I h131 69 2)
                      have r140 := z_rng (ez_I h131 69 3)
                      have r141 := z_rng (ez_I h131 69 6)
                      have A142 : rwJ (ez_I h131 70) r a.toInt.toNat := by rw [zW_fn F132 70 (fun c => c) (x56_33)]; exact A18
                      clear A18
                      refine z_add (by omega) (fun x143 ex143 => ?_)
                      refine gw_st rfl rfl rfl ?_
                      show ez_gw _ _ _ _ _ _ _ _ [some (.ref 69), some (.ref 2), some (.int z), some (.int a), some (.int n), some (.int x8), some (.int x128), some (.int x143), some (.int x98), l9] _ _ _
                      have hre : REf (x8.toInt.toNat - 16) = x130.toInt.toNat := by rw [show x8.toInt.toNat - 16 = x98.toInt.toNat by omega]; omega
                      have hti : x143.toInt.toNat = RBf (x8.toInt.toNat - 16) + vB (tI (ez_I h 3)) q9 (REf (x8.toInt.toNat - 16)) := by rw [hre, show x8.toInt.toNat - 16 = x98.toInt.toNat by omega]; omega
                      have hvi : x128.toInt.toNat = if x8.toInt.toNat = 16 then r (a.toInt.toNat - 1) else 0 := by rw [if_neg (by omega)]; omega
                      have hv15 : 0 ≤ x128.toInt ∧ x128.toInt ≤ 15 := by omega
                      refine gw_ld rfl rfl ?_
                      refine gw_ld rfl rfl ?_
                      refine z_add (by omega) (fun x144 ex144 => ?_)
                      refine gw_ld rfl rfl ?_
                      refine z_b2 (fun c145 => ?_) (fun c145 => ?_)
                      · have c145 : x144.toInt ≤ z.toInt := c145
                        refine gw_skip _ ?_
                        refine z_C (m := 0) rfl rfl (fun x146 ex146 => ?_)
                        refine gw_st rfl rfl rfl ?_
                        show ez_gw _ _ _ _ _ _ _ _ [some (.ref 69), some (.ref 2), some (.int z), some (.int a), some (.int n), some (.int x8), some (.int x128), some (.int x143), some (.int x98), some (.int x146)] _ _ _
                        exact ez_Wp_at (ih.2 h131 a n x8 x128 x143 x98 x146 (q9 + REf (x8.toInt.toNat - 16)) r a.toInt.toNat F138 (by omega) (A_sp.trans ((rwL_s (G := z.toInt.toNat - a.toInt.toNat - 1) (by omega) (by omega) (rwS_y (t := x143.toInt.toNat) (v := x128.toInt.toNat) (e := REf (x8.toInt.toNat - 16)) sdx8 (by omega) (by omega) rfl (by omega) hti (by omega) hvi)).trans (rwL_f hL0 _ _ _ _ _ (by show z.toInt.toNat ≤ z.toInt.toNat - a.toInt.toNat - 1 + (a.toInt.toNat + x143.toInt.toNat); omega) (by show z.toInt.toNat ≤ z.toInt.toNat - (a.toInt.toNat + x143.toInt.toNat) + (a.toInt.toNat + x143.toInt.toNat); omega)))) ((by rw [show x146.toInt.toNat = 0 by omega]; exact rwJ_z A142 rfl)) (by omega)) rfl
                      · have c145 : ¬ (x144.toInt ≤ z.toInt) := c145
                        refine gw_ld rfl rfl ?_
                        refine z_C (m := 6) rfl rfl (fun x147 ex147 => ?_)
                        refine z_cl rfl rfl rfl rfl rfl rfl rfl rfl rfl rfl rfl (zT S137 (by decide) rfl) ?_
                        exact c_fail (i := x147) S137 (zMw F138 hM) (by omega) (fun hh FF => Ke (A_sp.trans (rwL_n (by omega) (by omega) (rwS_n sdx8 (by omega) (.inr (.inr (by omega)))))) hh (zW_tr F138 (zW_mono FF x56_31 x56_32 x56_6))) trivial
                    · have c127 : ¬ (a.toInt ≤ 0) := c127
                      refine gw_ld rfl rfl ?_
                      refine z_gR (q := 70) (zT S13 (by decide) rfl) (zRf S13 (by decide) (by decide) rfl) (by decide) ?_
                      refine gw_ld rfl rfl ?_
                      refine z_C (m := 1) rfl rfl (fun x148 ex148 => ?_)
                      refine z_sub (by omega) (fun x149 ex149 => ?_)
                      refine z_ia (n := 316) (zT S13 (by decide) rfl) (zN S13 (by decide) rfl) (by omega) ?_
                      generalize ex150 : ez_I h6 70 x149.toInt.toNat = x150
                      have rx150 := z_rng x150
                      have yr := A18 (a.toInt.toNat - 1) (by omega)
                      rw [show a.toInt.toNat - 1 = x149.toInt.toNat by omega, ex150] at yr
                      rw [show x149.toInt.toNat = a.toInt.toNat - 1 by omega] at yr
                      refine z_go ?_
                      refine gw_skip _ ?_
                      refine gw_st rfl rfl rfl ?_
                      show ez_gw _ _ _ _ _ _ _ _ [some (.ref 69), some (.ref 2), some (.int z), some (.int a), some (.int n), some (.int x8), some (.int x150), some (.int x96), some (.int x98), l9] _ _ _
                      refine z_gs ?_
                      refine gw_ld rfl rfl ?_
                      refine z_iaE (n := 3) (hE 6) (by omega) ?_
                      generalize ex151 : (tz_ar (6 + 1)).getD x98.toInt.toNat 0 = x151
                      have rx151 := z_rng x151
                      have ox151 := tz_RB (n := x98.toInt.toNat) (by omega)
                      rw [ex151] at ox151
                      refine gw_ld rfl rfl ?_
                      refine gw_ld rfl rfl ?_
                      refine z_gs ?_
                      refine gw_ld rfl rfl ?_
                      refine z_iaE (n := 3) (hE 8) (by omega) ?_
                      generalize ex152 : (tz_ar (8 + 1)).getD x98.toInt.toNat 0 = x152
                      have rx152 := z_rng x152
                      have ox152 := tz_RE (n := x98.toInt.toNat) (by omega)
                      rw [ex152] at ox152
                      refine z_cl rfl rfl rfl rfl rfl rfl rfl rfl rfl rfl rfl (zT S13 (by decide) rfl) ?_
                      have hrb := RB_3 x98.toInt.toNat (by omega)
                      have hrn : REf (x8.toInt.toNat - 16) = x152.toInt.toNat := by rw [show x8.toInt.toNat - 16 = x98.toInt.toNat by omega]; omega
                      refine c_tb (n := x152) S13 (zMw F14 hM) (by rw [(show ez_I h6 2 1 = ez_I h 2 1 from zW_f F14 x56_20 x56_21)]; exact hz) (by rw [(show ez_I h6 2 1 = ez_I h 2 1 from zW_f F14 x56_20 x56_21), (show ez_I h6 3 = ez_I h 3 from zW_fn F14 3 x56_22 x56_23)]; exact hb) (by rw [(show ez_I h6 2 1 = ez_I h 2 1 from zW_f F14 x56_20 x56_21)]; omega) (by omega) (by rw [(show ez_I h6 2 1 = ez_I h 2 1 from zW_f F14 x56_20 x56_21)]; exact fun q hh FF => Ke (A_sp.trans (rwL_n (by omega) (by omega) (rwS_n sdx8 (by omega) (.inr (.inl (by omega)))))) hh (zW_tr F14 (zW_mono FF x56_31 x56_32 x56_6))) (fun h153 x155 F154 k156 k157 k158 => ?_)
                      rw [(show ez_I h6 3 = ez_I h 3 from zW_fn F14 3 x56_22 x56_23), show x152.toInt.toNat = x152.toInt.toNat by omega, show (ez_I h6 69 6).toInt.toNat = q9 by omega] at k157
                      rw [(show ez_I h6 2 1 = ez_I h 2 1 from zW_f F14 x56_20 x56_21)] at k156
                      have rx155 := z_rng x155
                      have vlx155 := vB_lt (tI (ez_I h 3)) (q9) (x152.toInt.toNat)
                      have vpx155 := Nat.pow_le_pow_right (n := 2) (by decide) (show x152.toInt.toNat ≤ 16 by omega)
                      have S159 := zW_sh F154 S13
                      have F160 := zW_tr F14 (zW_mono F154 (x56_31) (x56_32) (x56_6))
                      have r161 := z_rng (ez_I h153 69 2)
                      have r162 := z_rng (ez_I h153 69 3)
                      have r163 := z_rng (ez_I h153 69 6)
                      have A164 : rwJ (ez_I h153 70) r a.toInt.toNat := by rw [zW_fn F154 70 (fun c => c) (x56_33)]; exact A18
                      clear A18
                      refine z_add (by omega) (fun x165 ex165 => ?_)
                      refine gw_st rfl rfl rfl ?_
                      show ez_gw _ _ _ _ _ _ _ _ [some (.ref 69), some (.ref 2), some (.int z), some (.int a), some (.int n), some (.int x8), some (.int x150), some (.int x165), some (.int x98), l9] _ _ _
                      have hre : REf (x8.toInt.toNat - 16) = x152.toInt.toNat := by rw [show x8.toInt.toNat - 16 = x98.toInt.toNat by omega]; omega
                      have hti : x165.toInt.toNat = RBf (x8.toInt.toNat - 16) + vB (tI (ez_I h 3)) q9 (REf (x8.toInt.toNat - 16)) := by rw [hre, show x8.toInt.toNat - 16 = x98.toInt.toNat by omega]; omega
                      have hvi : x150.toInt.toNat = if x8.toInt.toNat = 16 then r (a.toInt.toNat - 1) else 0 := by rw [if_pos (by omega)]; omega
                      have hv15 : 0 ≤ x150.toInt ∧ x150.toInt ≤ 15 := by omega
                      refine gw_ld rfl rfl ?_
                      refine gw_ld rfl rfl ?_
                      refine z_add (by omega) (fun x166 ex166 => ?_)
                      refine gw_ld rfl rfl ?_
                      refine z_b2 (fun c167 => ?_) (fun c167 => ?_)
                      · have c167 : x166.toInt ≤ z.toInt := c167
                        refine gw_skip _ ?_
                        refine z_C (m := 0) rfl rfl (fun x168 ex168 => ?_)
                        refine gw_st rfl rfl rfl ?_
                        show ez_gw _ _ _ _ _ _ _ _ [some (.ref 69), some (.ref 2), some (.int z), some (.int a), some (.int n), some (.int x8), some (.int x150), some (.int x165), some (.int x98), some (.int x168)] _ _ _
                        exact ez_Wp_at (ih.2 h153 a n x8 x150 x165 x98 x168 (q9 + REf (x8.toInt.toNat - 16)) r a.toInt.toNat F160 (by omega) (A_sp.trans ((rwL_s (G := z.toInt.toNat - a.toInt.toNat - 1) (by omega) (by omega) (rwS_y (t := x165.toInt.toNat) (v := x150.toInt.toNat) (e := REf (x8.toInt.toNat - 16)) sdx8 (by omega) (by omega) rfl (by omega) hti (by omega) hvi)).trans (rwL_f hL0 _ _ _ _ _ (by show z.toInt.toNat ≤ z.toInt.toNat - a.toInt.toNat - 1 + (a.toInt.toNat + x165.toInt.toNat); omega) (by show z.toInt.toNat ≤ z.toInt.toNat - (a.toInt.toNat + x165.toInt.toNat) + (a.toInt.toNat + x165.toInt.toNat); omega)))) ((by rw [show x168.toInt.toNat = 0 by omega]; exact rwJ_z A164 rfl)) (by omega)) rfl
                      · have c167 : ¬ (x166.toInt ≤ z.toInt) := c167
                        refine gw_ld rfl rfl ?_
                        refine z_C (m := 6) rfl rfl (fun x169 ex169 => ?_)
                        refine z_cl rfl rfl rfl rfl rfl rfl rfl rfl rfl rfl rfl (zT S159 (by decide) rfl) ?_
                        exact c_fail (i := x169) S159 (zMw F160 hM) (by omega) (fun hh FF => Ke (A_sp.trans (rwL_n (by omega) (by omega) (rwS_n sdx8 (by omega) (.inr (.inr (by omega)))))) hh (zW_tr F160 (zW_mono FF x56_31 x56_32 x56_6))) trivial
            · have c95 : ¬ (a.toInt ≠ 0) := c95
              refine gw_ld rfl rfl ?_
              refine z_C (m := 6) rfl rfl (fun x170 ex170 => ?_)
              refine z_cl rfl rfl rfl rfl rfl rfl rfl rfl rfl rfl rfl (zT S13 (by decide) rfl) ?_
              exact c_fail (i := x170) S13 (zMw F14 hM) (by omega) (fun hh FF => Ke (A_sp.trans (rwL_n (by omega) (by omega) (rwS_n sdx8 (by omega) (.inl (by omega))))) hh (zW_tr F14 (zW_mono FF x56_31 x56_32 x56_6))) trivial
    · skip
      have w_a := z_rng a
      have w_n := z_rng n
      have w_s := z_rng s
      have w_v := z_rng v
      have w_t := z_rng t
      have w_kk := z_rng kk
      have w_i := z_rng i
      have gz := z_rng z
      have S2 := zW_sh F S
      apply ez_Wp_in
      show ez_gw _ _ _ _ _ _ (cz_137) _ _ _ _ _
      refine gw_skip _ ?_
      have r171 := z_rng (ez_I h2 69 2)
      have r172 := z_rng (ez_I h2 69 3)
      have r173 := z_rng (ez_I h2 69 6)
      refine gw_ld rfl rfl ?_
      refine gw_ld rfl rfl ?_
      refine z_b2 (fun c174 => ?_) (fun c174 => ?_)
      · have c174 : t.toInt ≤ i.toInt := c174
        refine gw_skip _ ?_
        refine z_inc rfl (by rw [show (1 : Int32).toInt = 1 from rfl]; omega) (fun x175 ex175 => ?_)
        rw [show (1 : Int32).toInt = 1 from rfl] at ex175
        show ez_gw _ _ _ _ _ _ _ _ [some (.ref 69), some (.ref 2), some (.int z), some (.int a), some (.int x175), some (.int s), some (.int v), some (.int t), some (.int kk), some (.int i)] _ _ _
        refine z_go ?_
        exact ih.1 h2 a x175 (some (.int s)) (some (.int v)) (some (.int t)) (some (.int kk)) (some (.int i)) p2 (flN r a0 t.toInt.toNat v.toInt.toNat) F (by omega) ((by have b1 := A_sp; rw [show a0 + t.toInt.toNat = a.toInt.toNat by omega] at b1; exact b1)) ((by have b1 := A_rw; rw [show i.toInt.toNat = t.toInt.toNat by omega, show a0 + t.toInt.toNat = a.toInt.toNat by omega] at b1; exact b1)) (by omega)
      · have c174 : ¬ (t.toInt ≤ i.toInt) := c174
        refine gw_ld rfl rfl ?_
        refine gw_ld rfl rfl ?_
        refine z_gR (q := 70) (zT S2 (by decide) rfl) (zRf S2 (by decide) (by decide) rfl) (by decide) ?_
        refine z_al (n := 316) (.inl (zT S2 (by decide) rfl)) (zN S2 (by decide) rfl) (by omega) (fun x176 ex176 => ?_)
        refine z_b2 (fun c177 => ?_) (fun c177 => ?_)
        · have c177 : x176.toInt ≤ a.toInt := c177
          refine gw_skip _ ?_
          refine z_inc rfl (by rw [show (1 : Int32).toInt = 1 from rfl]; omega) (fun x178 ex178 => ?_)
          rw [show (1 : Int32).toInt = 1 from rfl] at ex178
          show ez_gw _ _ _ _ _ _ _ _ [some (.ref 69), some (.ref 2), some (.int z), some (.int a), some (.int x178), some (.int s), some (.int v), some (.int t), some (.int kk), some (.int i)] _ _ _
          refine z_go ?_
          exact ih.1 h2 a x178 (some (.int s)) (some (.int v)) (some (.int t)) (some (.int kk)) (some (.int i)) p2 (flN r a0 t.toInt.toNat v.toInt.toNat) F (by omega) ((by have b1 := A_sp; rw [show a0 + t.toInt.toNat = a.toInt.toNat by omega] at b1; exact b1)) ((by have b1 := A_rw; rw [show i.toInt.toNat = t.toInt.toNat by omega, show a0 + t.toInt.toNat = a.toInt.toNat by omega] at b1; exact b1)) (by omega)
        · have c177 : ¬ (x176.toInt ≤ a.toInt) := c177
          refine gw_ld rfl rfl ?_
          refine z_gR (q := 70) (zT S2 (by decide) rfl) (zRf S2 (by decide) (by decide) rfl) (by decide) ?_
          refine gw_ld rfl rfl ?_
          refine gw_ld rfl rfl ?_
          refine z_is (n := 316) (zT S2 (by decide) rfl) (zN S2 (by decide) rfl) (by omega) (fun h179 e180 => ?_)
          have S181 := zSh_set S2 e180
          have F182 := zW_setA F e180 (by decide)
          have f183 : ez_I h179 69 2 = (ez_I h2 69 2) := (zI_ne e180 (by omega)).trans (rfl)
          have f184 : ez_I h179 69 3 = (ez_I h2 69 3) := (zI_ne e180 (by omega)).trans (rfl)
          have f185 : ez_I h179 69 6 = (ez_I h2 69 6) := (zI_ne e180 (by omega)).trans (rfl)
          have A186 : rwJ (ez_I h179 70) (flN r a0 (i.toInt.toNat + 1) v.toInt.toNat) (a0 + (i.toInt.toNat + 1)) := rwJ_s A_rw e180 (by omega) (by omega) (by omega) rfl rfl
          refine z_inc rfl (by rw [show (1 : Int32).toInt = 1 from rfl]; omega) (fun x187 ex187 => ?_)
          rw [show (1 : Int32).toInt = 1 from rfl] at ex187
          show ez_gw _ _ _ _ _ _ _ _ [some (.ref 69), some (.ref 2), some (.int z), some (.int x187), some (.int n), some (.int s), some (.int v), some (.int t), some (.int kk), some (.int i)] _ _ _
          refine z_inc rfl (by rw [show (1 : Int32).toInt = 1 from rfl]; omega) (fun x188 ex188 => ?_)
          rw [show (1 : Int32).toInt = 1 from rfl] at ex188
          show ez_gw _ _ _ _ _ _ _ _ [some (.ref 69), some (.ref 2), some (.int z), some (.int x187), some (.int n), some (.int s), some (.int v), some (.int t), some (.int kk), some (.int x188)] _ _ _
          refine z_go ?_
          have t189 := congrArg Int32.toInt (f183)
          have t190 := congrArg Int32.toInt (f184)
          have t191 := congrArg Int32.toInt (f185)
          exact ih.2 h179 x187 n s v t kk x188 p2 r a0 F182 (by omega) (A_sp) ((by rw [show x188.toInt.toNat = i.toInt.toNat + 1 by omega]; exact A186)) (by omega)
set_option maxRecDepth 4000 in
set_option maxHeartbeats 2000000 in
theorem c_rRow {E : Nat → Nat × (Nat → Int32)} {d : Nat} {Q : ez_Q} {h : ez_H} {z : Int32} (S : zSh h) (hE : zE E) (hM : zMem h) (hz : 0 ≤ (ez_I h 2 1).toInt ∧ (ez_I h 2 1).toInt ≤ 6000) (hb : aR (ez_I h 3) (ez_I h 2 1).toInt.toNat 0 255) (hp : 0 ≤ (ez_I h 69 6).toInt ∧ (ez_I h 69 6).toInt ≤ 8 * (ez_I h 2 1).toInt) (hzz : 1 ≤ z.toInt ∧ z.toInt ≤ 316) (hL : aR (ez_I h 44) 288 0 15) (hL0 : ∀ k, 19 ≤ k → k < 288 → (nL (ez_I h 44)) k = 0) (hct : ctC (ez_I h 46) (nL (ez_I h 44)) 288) (hcd : (ez_I h 43 4).toInt = (plN (nL (ez_I h 44)) 288 16 : Nat)) (hit : itI (ez_I h 47) (nL (ez_I h 44)) 288 288) (Ke : rwL (tI (ez_I h 3)) (ez_I h 2 1).toInt.toNat (nL (ez_I h 44)) 288 z.toInt.toNat z.toInt.toNat (ez_I h 69 6).toInt.toNat 0 (fun _ => 0) = none → ∀ h2, zW (fun q k => q = 69 ∧ k = 2 ∨ q = 69 ∧ k = 3 ∨ q = 69 ∧ k = 6) (fun q => q = 70) (fun _ => False) h h2 → Q (.inr 2) (ez_bump h2)) (K : ∀ h2, zW (fun q k => q = 69 ∧ k = 2 ∨ q = 69 ∧ k = 3 ∨ q = 69 ∧ k = 6) (fun q => q = 70) (fun _ => False) h h2 → ∀ (q : Nat) (r : Nat → Nat), rwL (tI (ez_I h 3)) (ez_I h 2 1).toInt.toNat (nL (ez_I h 44)) 288 z.toInt.toNat z.toInt.toNat (ez_I h 69 6).toInt.toNat 0 (fun _ => 0) = some (q, r) → (ez_I h2 69 6).toInt = q → rwJ (ez_I h2 70) r z.toInt.toNat → Q (.inl none) h2) : pw E (d + 3) 137 0 [some (.ref 69), some (.ref 2), some (.int z), none, none, none, none, none, none, none] [] h Q := by
  have gz := z_rng z
  have F := zW_refl (fun q k => q = 69 ∧ k = 2 ∨ q = 69 ∧ k = 3 ∨ q = 69 ∧ k = 6) (fun q => q = 70) (fun _ => False) h
  apply ez_Wp_in
  show ez_gw _ _ _ _ _ _ (cz_137) _ _ _ _ _
  refine gw_skip _ ?_
  have r1 := z_rng (ez_I h 69 2)
  have r2 := z_rng (ez_I h 69 3)
  have r3 := z_rng (ez_I h 69 6)
  refine z_C (m := 0) rfl rfl (fun x4 ex4 => ?_)
  refine gw_st rfl rfl rfl ?_
  show ez_gw _ _ _ _ _ _ _ _ [some (.ref 69), some (.ref 2), some (.int z), some (.int x4), none, none, none, none, none, none] _ _ _
  refine z_C (m := 0) rfl rfl (fun x5 ex5 => ?_)
  refine gw_st rfl rfl rfl ?_
  show ez_gw _ _ _ _ _ _ _ _ [some (.ref 69), some (.ref 2), some (.int z), some (.int x4), some (.int x5), none, none, none, none, none] _ _ _
  exact ez_Wp_at ((c_rRow_L0 (z := z) S hE hM hz hb hp hzz hL hL0 hct hcd hit Ke K (((1000 * (400 - x5.toInt))).toNat + 1)).1 h x4 x5 (none) (none) (none) (none) (none) (ez_I h 69 6).toInt.toNat (fun _ => 0) F (by omega) ((by rw [show x4.toInt.toNat = 0 by omega]; rfl)) ((by rw [show x4.toInt.toNat = 0 by omega]; exact rwJ_0 _ _)) (by omega)) rfl
