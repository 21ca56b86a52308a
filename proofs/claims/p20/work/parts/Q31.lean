/-! PRINTED by wip/pack: the class reads: matches, parts -/
theorem LB_300 (k : Nat) : LBf k ≤ 258 := by
  by_cases h : k < 29
  · revert k; decide
  · unfold LBf
    rw [List.getD_eq_getElem?_getD, List.getElem?_eq_none (by show 29 ≤ k; omega)]
    decide
theorem DB_1 : ∀ k, k < 30 → 1 ≤ DBf k ∧ DBf k ≤ 24577 := by decide
theorem x57_0 : ∀ q k : Nat, (q = 69 ∧ k = 2 ∨ q = 69 ∧ k = 3 ∨ q = 69 ∧ k = 6) → (q = 69 ∧ k = 2 ∨ q = 69 ∧ k = 3 ∨ q = 69 ∧ k = 6 ∨ q = 50 ∧ k = 1) := fun q k hk => hk.elim (fun g => (.inl g)) (fun hk => hk.elim (fun g => (.inr (.inl g))) (fun hk => (.inr (.inr (.inl hk)))))
theorem x57_1 : ∀ q : Nat, (False) → (q = 51) := fun q hk => hk.elim
theorem x57_2 : ∀ q : Nat, (False) → (False) := fun q hk => hk.elim
theorem x57_3 : ∀ q k : Nat, (q = 50 ∧ k = 1) → (q = 69 ∧ k = 2 ∨ q = 69 ∧ k = 3 ∨ q = 69 ∧ k = 6 ∨ q = 50 ∧ k = 1) := fun q k hk => (.inr (.inr (.inr hk)))
theorem x57_4 : ∀ q : Nat, (q = 51) → (q = 51) := fun q hk => hk
set_option maxRecDepth 4000 in
set_option maxHeartbeats 2000000 in
theorem c_rMatch_L0 {E : Nat → Nat × (Nat → Int32)} {d : Nat} {Q : ez_Q} {h : ez_H} {p : Nat} {kd : Int32} {o : Nat → Int} (S : zSh h) (hp : p = 15 ∨ p = 22 ∨ p = 29 ∨ p = 36 ∨ p = 43) (hE : zE E) (hM : zMem h) (hz : 0 ≤ (ez_I h 2 1).toInt ∧ (ez_I h 2 1).toInt ≤ 6000) (hb : aR (ez_I h 3) (ez_I h 2 1).toInt.toNat 0 255) (hpo : 0 ≤ (ez_I h 69 6).toInt ∧ (ez_I h 69 6).toInt ≤ 8 * (ez_I h 2 1).toInt) (hm : 0 ≤ (ez_I h 50 1).toInt ∧ (ez_I h 50 1).toInt ≤ 6000) (ho : oR (ez_I h 51) o (ez_I h 50 1).toInt.toNat) (hk : 0 ≤ kd.toInt) (hL : aR (ez_I h (p + 1)) 288 0 15) (hct : ctC (ez_I h (p + 3)) (nL (ez_I h (p + 1))) 288) (hcd : (ez_I h p 4).toInt = (plN (nL (ez_I h (p + 1))) 288 16 : Nat)) (hit : itI (ez_I h (p + 4)) (nL (ez_I h (p + 1))) 288 288) (Ke : smU (tI (ez_I h 3)) (ez_I h 2 1).toInt.toNat (nL (ez_I h (p + 1))) 288 (ez_I h 69 6).toInt.toNat kd.toInt.toNat o (ez_I h 50 1).toInt.toNat = none → ∀ h2, zW (fun q k => q = 69 ∧ k = 2 ∨ q = 69 ∧ k = 3 ∨ q = 69 ∧ k = 6 ∨ q = 50 ∧ k = 1) (fun q => q = 51) (fun _ => False) h h2 → Q (.inr 2) (ez_bump h2)) (K : ∀ h2, zW (fun q k => q = 69 ∧ k = 2 ∨ q = 69 ∧ k = 3 ∨ q = 69 ∧ k = 6 ∨ q = 50 ∧ k = 1) (fun q => q = 51) (fun _ => False) h h2 → ∀ (q : Nat) (o2 : Nat → Int) (m2 : Nat), smU (tI (ez_I h 3)) (ez_I h 2 1).toInt.toNat (nL (ez_I h (p + 1))) 288 (ez_I h 69 6).toInt.toNat kd.toInt.toNat o (ez_I h 50 1).toInt.toNat = some (q, o2, m2) → (ez_I h2 69 6).toInt = q → (ez_I h2 50 1).toInt = m2 → m2 ≤ 6000 → oR (ez_I h2 51) o2 m2 → Q (.inl none) h2) : ∀ N : Nat, (∀ (h2 : ez_H) (l : Int32) (f : Int32) (ds : Int32) (i : Int32) (pq : Nat) (o2 : Nat → Int) (m2 : Nat), zW (fun q k => q = 69 ∧ k = 2 ∨ q = 69 ∧ k = 3 ∨ q = 69 ∧ k = 6 ∨ q = 50 ∧ k = 1) (fun q => q = 51) (fun _ => False) h h2 → (0 ≤ i.toInt ∧ i.toInt ≤ l.toInt ∧ l.toInt ≤ 100000 ∧ 1 ≤ ds.toInt ∧ ds.toInt ≤ m2 ∧ (ez_I h2 69 6).toInt = pq ∧ (pq : Int) ≤ 8 * (ez_I h 2 1).toInt ∧ (ez_I h2 50 1).toInt = m2 ∧ m2 ≤ 6000) → (smU (tI (ez_I h 3)) (ez_I h 2 1).toInt.toNat (nL (ez_I h (p + 1))) 288 (ez_I h 69 6).toInt.toNat kd.toInt.toNat o (ez_I h 50 1).toInt.toNat = cpQ pq (cpB (l.toInt.toNat - i.toInt.toNat) o2 m2 ds.toInt.toNat)) → (oR (ez_I h2 51) o2 m2) → (200000 - i.toInt) < (N : Int) → pw E (d + 3) 139 105 [some (.ref 69), some (.ref 2), some (.int kd), some (.ref p), some (.int l), some (.int f), some (.int ds), some (.int i)] [] h2 Q) := by
  intro N
  induction N with
  | zero => exact fun h2 l f ds i pq o2 m2 F hinv A_sp A_or hm => absurd hm (by have w_l := z_rng l; have w_f := z_rng f; have w_ds := z_rng ds; have w_i := z_rng i; have gkd := z_rng kd; have hpB : 15 ≤ p ∧ p ≤ 43 := (by omega); replace hp : codP p := hp; omega)
  | succ N ih =>
    refine fun h2 l f ds i pq o2 m2 F hinv A_sp A_or hm => ?_
    · skip
      have w_l := z_rng l
      have w_f := z_rng f
      have w_ds := z_rng ds
      have w_i := z_rng i
      have gkd := z_rng kd
      have hpB : 15 ≤ p ∧ p ≤ 43 := (by omega)
      replace hp : codP p := hp
      have S2 := zW_sh F S
      apply ez_Wp_in
      show ez_gw _ _ _ _ _ _ (cz_139) _ _ _ _ _
      refine gw_skip _ ?_
      have r1 := z_rng (ez_I h2 69 2)
      have r2 := z_rng (ez_I h2 69 3)
      have r3 := z_rng (ez_I h2 69 6)
      have r4 := z_rng (ez_I h2 50 1)
      refine gw_ld rfl rfl ?_
      refine gw_ld rfl rfl ?_
      refine z_b2 (fun c5 => ?_) (fun c5 => ?_)
      · have c5 : l.toInt ≤ i.toInt := c5
        refine gw_skip _ ?_
        refine z_rv ?_
        have b1 := A_sp
        rw [show l.toInt.toNat - i.toInt.toNat = 0 by omega] at b1
        exact K _ F pq o2 m2 b1 (by omega) (by omega) (by omega) A_or
      · have c5 : ¬ (l.toInt ≤ i.toInt) := c5
        refine gw_ld rfl rfl ?_
        refine gw_ld rfl rfl ?_
        refine z_gR (q := 50) (zT S2 (by decide) rfl) (zRf S2 (by decide) (by decide) rfl) (by decide) ?_
        refine z_gR (q := 51) (zT S2 (by decide) rfl) (zRf S2 (by decide) (by decide) rfl) (by decide) ?_
        refine gw_ld rfl rfl ?_
        refine z_gR (q := 50) (zT S2 (by decide) rfl) (zRf S2 (by decide) (by decide) rfl) (by decide) ?_
        refine z_gI2 (by decide) (zT S2 (by decide) rfl) (rfl) ?_
        refine gw_ld rfl rfl ?_
        refine z_sub (by omega) (fun x6 ex6 => ?_)
        refine z_ia (n := 6100) (zT S2 (by decide) rfl) (zN S2 (by decide) rfl) (by omega) ?_
        generalize ex7 : ez_I h2 51 x6.toInt.toNat = x7
        have rx7 := z_rng x7
        have yo := A_or (m2 - ds.toInt.toNat) (by omega)
        rw [show m2 - ds.toInt.toNat = x6.toInt.toNat by omega, ex7] at yo
        rw [show x6.toInt.toNat = m2 - ds.toInt.toNat by omega] at yo
        refine z_cl rfl rfl rfl rfl rfl rfl rfl rfl rfl rfl rfl (zT S2 (by decide) rfl) ?_
        refine c_putB (v := x7) S2 (zMw F hM) (by omega) (by omega) (fun q hh FF => Ke (A_sp.trans (by rw [cpB_n (by omega) (by omega)]; rfl)) hh (zW_tr F (zW_mono FF x57_0 x57_1 x57_2))) (fun h8 F9 k10 k11 k12 k13 => ?_)
        rw [show (ez_I h2 50 1).toInt.toNat = m2 by omega] at k12 k13
        have A14 : oR (ez_I h8 51) (putT o2 m2 (o2 (m2 - ds.toInt.toNat))) (m2 + 1) := oR_put A_or (by rw [k12]; exact yo) k13 rfl
        have S15 := zW_sh F9 S2
        have F16 := zW_tr F (zW_mono F9 (x57_3) (x57_4) (x57_2))
        have f17 : ez_I h8 69 2 = (ez_I h2 69 2) := (zW_f F9 (by decide) (by decide)).trans (rfl)
        have f18 : ez_I h8 69 3 = (ez_I h2 69 3) := (zW_f F9 (by decide) (by decide)).trans (rfl)
        have f19 : ez_I h8 69 6 = (ez_I h2 69 6) := (zW_f F9 (by decide) (by decide)).trans (rfl)
        have r20 := z_rng (ez_I h8 50 1)
        refine z_inc rfl (by rw [show (1 : Int32).toInt = 1 from rfl]; omega) (fun x21 ex21 => ?_)
        rw [show (1 : Int32).toInt = 1 from rfl] at ex21
        show ez_gw _ _ _ _ _ _ _ _ [some (.ref 69), some (.ref 2), some (.int kd), some (.ref p), some (.int l), some (.int f), some (.int ds), some (.int x21)] _ _ _
        refine z_go ?_
        have t22 := congrArg Int32.toInt (f17)
        have t23 := congrArg Int32.toInt (f18)
        have t24 := congrArg Int32.toInt (f19)
        exact ih h8 l f ds x21 pq (putT o2 m2 (o2 (m2 - ds.toInt.toNat))) (m2 + 1) F16 (by omega) (A_sp.trans (congrArg (cpQ pq) (cpB_y (by omega) (by omega) rfl))) (A14) (by omega)
theorem x57_5 : ¬ (2 = 51) := by omega
theorem x57_6 : ¬ (2 = 69 ∧ 1 = 2 ∨ 2 = 69 ∧ 1 = 3 ∨ 2 = 69 ∧ 1 = 6 ∨ 2 = 50 ∧ 1 = 1) := by omega
theorem x57_7 : ¬ (3 = 51) := by omega
theorem x57_8 : ∀ k : Nat, ¬ (3 = 69 ∧ k = 2 ∨ 3 = 69 ∧ k = 3 ∨ 3 = 69 ∧ k = 6 ∨ 3 = 50 ∧ k = 1) := fun k c => by omega
theorem x57_9 : ∀ k : Nat, ¬ (51 = 69 ∧ k = 2 ∨ 51 = 69 ∧ k = 3 ∨ 51 = 69 ∧ k = 6) := fun k c => by omega
set_option maxRecDepth 4000 in
set_option maxHeartbeats 2000000 in
theorem c_rMatch {E : Nat → Nat × (Nat → Int32)} {d : Nat} {Q : ez_Q} {h : ez_H} {p : Nat} {kd : Int32} {o : Nat → Int} (S : zSh h) (hp : p = 15 ∨ p = 22 ∨ p = 29 ∨ p = 36 ∨ p = 43) (hE : zE E) (hM : zMem h) (hz : 0 ≤ (ez_I h 2 1).toInt ∧ (ez_I h 2 1).toInt ≤ 6000) (hb : aR (ez_I h 3) (ez_I h 2 1).toInt.toNat 0 255) (hpo : 0 ≤ (ez_I h 69 6).toInt ∧ (ez_I h 69 6).toInt ≤ 8 * (ez_I h 2 1).toInt) (hm : 0 ≤ (ez_I h 50 1).toInt ∧ (ez_I h 50 1).toInt ≤ 6000) (ho : oR (ez_I h 51) o (ez_I h 50 1).toInt.toNat) (hk : 0 ≤ kd.toInt) (hL : aR (ez_I h (p + 1)) 288 0 15) (hct : ctC (ez_I h (p + 3)) (nL (ez_I h (p + 1))) 288) (hcd : (ez_I h p 4).toInt = (plN (nL (ez_I h (p + 1))) 288 16 : Nat)) (hit : itI (ez_I h (p + 4)) (nL (ez_I h (p + 1))) 288 288) (Ke : smU (tI (ez_I h 3)) (ez_I h 2 1).toInt.toNat (nL (ez_I h (p + 1))) 288 (ez_I h 69 6).toInt.toNat kd.toInt.toNat o (ez_I h 50 1).toInt.toNat = none → ∀ h2, zW (fun q k => q = 69 ∧ k = 2 ∨ q = 69 ∧ k = 3 ∨ q = 69 ∧ k = 6 ∨ q = 50 ∧ k = 1) (fun q => q = 51) (fun _ => False) h h2 → Q (.inr 2) (ez_bump h2)) (K : ∀ h2, zW (fun q k => q = 69 ∧ k = 2 ∨ q = 69 ∧ k = 3 ∨ q = 69 ∧ k = 6 ∨ q = 50 ∧ k = 1) (fun q => q = 51) (fun _ => False) h h2 → ∀ (q : Nat) (o2 : Nat → Int) (m2 : Nat), smU (tI (ez_I h 3)) (ez_I h 2 1).toInt.toNat (nL (ez_I h (p + 1))) 288 (ez_I h 69 6).toInt.toNat kd.toInt.toNat o (ez_I h 50 1).toInt.toNat = some (q, o2, m2) → (ez_I h2 69 6).toInt = q → (ez_I h2 50 1).toInt = m2 → m2 ≤ 6000 → oR (ez_I h2 51) o2 m2 → Q (.inl none) h2) : pw E (d + 3) 139 0 [some (.ref 69), some (.ref 2), some (.int kd), some (.ref p), none, none, none, none] [] h Q := by
  have gkd := z_rng kd
  have hpB : 15 ≤ p ∧ p ≤ 43 := (by omega)
  replace hp : codP p := hp
  have F := zW_refl (fun q k => q = 69 ∧ k = 2 ∨ q = 69 ∧ k = 3 ∨ q = 69 ∧ k = 6 ∨ q = 50 ∧ k = 1) (fun q => q = 51) (fun _ => False) h
  apply ez_Wp_in
  show ez_gw _ _ _ _ _ _ (cz_139) _ _ _ _ _
  refine gw_skip _ ?_
  have r1 := z_rng (ez_I h 69 2)
  have r2 := z_rng (ez_I h 69 3)
  have r3 := z_rng (ez_I h 69 6)
  have r4 := z_rng (ez_I h 50 1)
  refine gw_ld rfl rfl ?_
  refine z_b1 (fun c5 => ?_) (fun c5 => ?_)
  · have c5 : kd.toInt < 0 := c5
    refine gw_skip _ ?_
    refine gw_ld rfl rfl ?_
    refine z_C (m := 7) rfl rfl (fun x6 ex6 => ?_)
    refine z_cl rfl rfl rfl rfl rfl rfl rfl rfl rfl rfl rfl (zT S (by decide) rfl) ?_
    exact c_fail (i := x6) S (zMw F hM) (by omega) (fun hh FF => Ke (smU_n (.inl (by omega))) hh (zW_tr F (zW_mono FF x57_0 x57_1 x57_2))) trivial
  · have c5 : ¬ (kd.toInt < 0) := c5
    refine gw_ld rfl rfl ?_
    refine z_gs ?_
    refine z_alE (n := 29) (by rw [hE 1]; rfl) (by omega) (fun x7 ex7 => ?_)
    refine z_b2 (fun c8 => ?_) (fun c8 => ?_)
    · have c8 : kd.toInt < x7.toInt := c8
      refine gw_skip _ ?_
      refine z_gs ?_
      refine gw_ld rfl rfl ?_
      refine z_iaE (n := 29) (hE 1) (by omega) ?_
      generalize ex9 : (tz_ar (1 + 1)).getD kd.toInt.toNat 0 = x9
      have rx9 := z_rng x9
      have ox9 := tz_LB (n := kd.toInt.toNat) (by omega)
      rw [ex9] at ox9
      have hlb := LB_300 kd.toInt.toNat
      refine gw_ld rfl rfl ?_
      refine gw_ld rfl rfl ?_
      refine z_gs ?_
      refine gw_ld rfl rfl ?_
      refine z_iaE (n := 29) (hE 3) (by omega) ?_
      generalize ex10 : (tz_ar (3 + 1)).getD kd.toInt.toNat 0 = x10
      have rx10 := z_rng x10
      have ox10 := tz_LE (n := kd.toInt.toNat) (by omega)
      rw [ex10] at ox10
      refine z_cl rfl rfl rfl rfl rfl rfl rfl rfl rfl rfl rfl (zT S (by decide) rfl) ?_
      have hle : LEf kd.toInt.toNat = x10.toInt.toNat := by omega
      have hl5 := LE_5 kd.toInt.toNat
      refine c_tb (n := x10) S (zMw F hM) (by rw [(show ez_I h 2 1 = ez_I h 2 1 from zW_f F x57_5 x57_6)]; exact hz) (by rw [(show ez_I h 2 1 = ez_I h 2 1 from zW_f F x57_5 x57_6), (show ez_I h 3 = ez_I h 3 from zW_fn F 3 x57_7 x57_8)]; exact hb) (by rw [(show ez_I h 2 1 = ez_I h 2 1 from zW_f F x57_5 x57_6)]; omega) (by omega) (by rw [(show ez_I h 2 1 = ez_I h 2 1 from zW_f F x57_5 x57_6)]; exact fun q hh FF => Ke (smU_n (.inr (by omega))) hh (zW_tr F (zW_mono FF x57_0 x57_1 x57_2))) (fun h11 x13 F12 k14 k15 k16 => ?_)
      rw [(show ez_I h 3 = ez_I h 3 from zW_fn F 3 x57_7 x57_8), show x10.toInt.toNat = x10.toInt.toNat by omega, show (ez_I h 69 6).toInt.toNat = (ez_I h 69 6).toInt.toNat by omega] at k15
      rw [(show ez_I h 2 1 = ez_I h 2 1 from zW_f F x57_5 x57_6)] at k14
      have rx13 := z_rng x13
      have vlx13 := vB_lt (tI (ez_I h 3)) ((ez_I h 69 6).toInt.toNat) (x10.toInt.toNat)
      have vpx13 := Nat.pow_le_pow_right (n := 2) (by decide) (show x10.toInt.toNat ≤ 16 by omega)
      have S17 := zW_sh F12 S
      have F18 := zW_tr F (zW_mono F12 (x57_0) (x57_1) (x57_2))
      have r19 := z_rng (ez_I h11 69 2)
      have r20 := z_rng (ez_I h11 69 3)
      have r21 := z_rng (ez_I h11 69 6)
      have f22 : ez_I h11 50 1 = (ez_I h 50 1) := (zW_f F12 (fun c => c) (by decide)).trans (rfl)
      have A23 : oR (ez_I h11 51) o (ez_I h 50 1).toInt.toNat := by rw [zW_fn F12 51 (fun c => c) (x57_9)]; exact ho
      refine z_add (by omega) (fun x24 ex24 => ?_)
      refine gw_st rfl rfl rfl ?_
      show ez_gw _ _ _ _ _ _ _ _ [some (.ref 69), some (.ref 2), some (.int kd), some (.ref p), some (.int x24), none, none, none] _ _ _
      refine gw_ld rfl rfl ?_
      refine gw_ld rfl rfl ?_
      refine gw_ld rfl rfl ?_
      have t25 := congrArg Int32.toInt (f22)
      refine z_cl rfl rfl rfl rfl rfl rfl rfl rfl rfl rfl rfl (zT S17 (by decide) rfl) ?_
      refine c_sym (p := p) S17 hp (zMw F18 hM) (by rw [(show ez_I h11 2 1 = ez_I h 2 1 from zW_f F18 x57_5 x57_6)]; exact hz) (by rw [(show ez_I h11 2 1 = ez_I h 2 1 from zW_f F18 x57_5 x57_6), (show ez_I h11 3 = ez_I h 3 from zW_fn F18 3 x57_7 x57_8)]; exact hb) (by rw [(show ez_I h11 2 1 = ez_I h 2 1 from zW_f F18 x57_5 x57_6)]; omega) (show aR (ez_I h11 (p + 1)) 288 0 15 by rw [(show ez_I h11 (p + 1) = ez_I h (p + 1) from zW_fn F18 (p + 1) (by omega) (fun k c => by omega))]; exact hL) (show ctC (ez_I h11 (p + 3)) (nL (ez_I h11 (p + 1))) 288 by rw [(show ez_I h11 (p + 3) = ez_I h (p + 3) from zW_fn F18 (p + 3) (by omega) (fun k c => by omega)), (show ez_I h11 (p + 1) = ez_I h (p + 1) from zW_fn F18 (p + 1) (by omega) (fun k c => by omega))]; exact hct) (show (ez_I h11 p 4).toInt = (plN (nL (ez_I h11 (p + 1))) 288 16 : Nat) by rw [(show ez_I h11 p 4 = ez_I h p 4 from zW_f F18 (by omega) (by omega)), (show ez_I h11 (p + 1) = ez_I h (p + 1) from zW_fn F18 (p + 1) (by omega) (fun k c => by omega))]; exact hcd) (show itI (ez_I h11 (p + 4)) (nL (ez_I h11 (p + 1))) 288 288 by rw [(show ez_I h11 (p + 4) = ez_I h (p + 4) from zW_fn F18 (p + 4) (by omega) (fun k c => by omega)), (show ez_I h11 (p + 1) = ez_I h (p + 1) from zW_fn F18 (p + 1) (by omega) (fun k c => by omega))]; exact hit) (fun qn hh FF => Ke (by have q2 : sdR (tI (ez_I h11 3)) (ez_I h11 2 1).toInt.toNat (ez_I h11 69 6).toInt.toNat (nL (ez_I h11 (p + 1))) 288 = none := qn; rw [(show ez_I h11 3 = ez_I h 3 from zW_fn F18 3 x57_7 x57_8), (show ez_I h11 2 1 = ez_I h 2 1 from zW_f F18 x57_5 x57_6), (show ez_I h11 (p + 1) = ez_I h (p + 1) from zW_fn F18 (p + 1) (by omega) (fun k c => by omega)), show (ez_I h11 69 6).toInt.toNat = (ez_I h 69 6).toInt.toNat + x10.toInt.toNat by omega] at q2; exact smU_1 (q2 := (ez_I h 69 6).toInt.toNat + x10.toInt.toNat) (by omega) (by omega) (by omega) q2) hh (zW_tr F18 (zW_mono FF x57_0 x57_1 x57_2))) (fun h26 x28 F27 q29 k30 k31 k32 => ?_)
      have sdx28 : sdR (tI (ez_I h11 3)) (ez_I h11 2 1).toInt.toNat (ez_I h11 69 6).toInt.toNat (nL (ez_I h11 (p + 1))) 288 = some (x28.toInt.toNat, q29) := k30
      rw [(show ez_I h11 3 = ez_I h 3 from zW_fn F18 3 x57_7 x57_8), (show ez_I h11 2 1 = ez_I h 2 1 from zW_f F18 x57_5 x57_6), (show ez_I h11 (p + 1) = ez_I h (p + 1) from zW_fn F18 (p + 1) (by omega) (fun k c => by omega)), show (ez_I h11 69 6).toInt.toNat = (ez_I h 69 6).toInt.toNat + x10.toInt.toNat by omega] at sdx28
      have rx28 := z_rng x28
      have sox28 := sdR_ok sdx28
      have ssx28 := sdR_s sdx28
      have S33 := zW_sh F27 S17
      have F34 := zW_tr F18 (zW_mono F27 (x57_0) (x57_1) (x57_2))
      have r35 := z_rng (ez_I h26 69 2)
      have r36 := z_rng (ez_I h26 69 3)
      have r37 := z_rng (ez_I h26 69 6)
      have f38 : ez_I h26 50 1 = (ez_I h 50 1) := (zW_f F27 (fun c => c) (by decide)).trans (f22)
      have A39 : oR (ez_I h26 51) o (ez_I h 50 1).toInt.toNat := by rw [zW_fn F27 51 (fun c => c) (x57_9)]; exact A23
      clear A23
      refine gw_st rfl rfl rfl ?_
      show ez_gw _ _ _ _ _ _ _ _ [some (.ref 69), some (.ref 2), some (.int kd), some (.ref p), some (.int x24), some (.int x28), none, none] _ _ _
      refine gw_ld rfl rfl ?_
      refine z_b1 (fun c40 => ?_) (fun c40 => ?_)
      · have c40 : x28.toInt < 0 := c40
        refine gw_skip _ ?_
        refine gw_ld rfl rfl ?_
        refine z_C (m := 7) rfl rfl (fun x41 ex41 => ?_)
        have t42 := congrArg Int32.toInt (f38)
        refine z_cl rfl rfl rfl rfl rfl rfl rfl rfl rfl rfl rfl (zT S33 (by decide) rfl) ?_
        exact c_fail (i := x41) S33 (zMw F34 hM) (by omega) (fun hh FF => Ke (smU_2 (q2 := (ez_I h 69 6).toInt.toNat + x10.toInt.toNat) (by omega) (by omega) (by omega) sdx28 (.inl (by omega))) hh (zW_tr F34 (zW_mono FF x57_0 x57_1 x57_2))) trivial
      · have c40 : ¬ (x28.toInt < 0) := c40
        refine gw_ld rfl rfl ?_
        refine z_gs ?_
        refine z_alE (n := 30) (by rw [hE 2]; rfl) (by omega) (fun x43 ex43 => ?_)
        refine z_b2 (fun c44 => ?_) (fun c44 => ?_)
        · have c44 : x28.toInt < x43.toInt := c44
          refine gw_skip _ ?_
          refine z_gs ?_
          refine gw_ld rfl rfl ?_
          refine z_iaE (n := 30) (hE 2) (by omega) ?_
          generalize ex45 : (tz_ar (2 + 1)).getD x28.toInt.toNat 0 = x45
          have rx45 := z_rng x45
          have ox45 := tz_DB (n := x28.toInt.toNat) (by omega)
          rw [ex45] at ox45
          have hdb := DB_1 x28.toInt.toNat (by omega)
          refine gw_ld rfl rfl ?_
          refine gw_ld rfl rfl ?_
          refine z_gs ?_
          refine gw_ld rfl rfl ?_
          refine z_iaE (n := 30) (hE 4) (by omega) ?_
          generalize ex46 : (tz_ar (4 + 1)).getD x28.toInt.toNat 0 = x46
          have rx46 := z_rng x46
          have ox46 := tz_DE (n := x28.toInt.toNat) (by omega)
          rw [ex46] at ox46
          have t47 := congrArg Int32.toInt (f38)
          refine z_cl rfl rfl rfl rfl rfl rfl rfl rfl rfl rfl rfl (zT S33 (by decide) rfl) ?_
          have hde : DEf x28.toInt.toNat = x46.toInt.toNat := by omega
          have hd13 := DE_13 x28.toInt.toNat
          refine c_tb (n := x46) S33 (zMw F34 hM) (by rw [(show ez_I h26 2 1 = ez_I h 2 1 from zW_f F34 x57_5 x57_6)]; exact hz) (by rw [(show ez_I h26 2 1 = ez_I h 2 1 from zW_f F34 x57_5 x57_6), (show ez_I h26 3 = ez_I h 3 from zW_fn F34 3 x57_7 x57_8)]; exact hb) (by rw [(show ez_I h26 2 1 = ez_I h 2 1 from zW_f F34 x57_5 x57_6)]; omega) (by omega) (by rw [(show ez_I h26 2 1 = ez_I h 2 1 from zW_f F34 x57_5 x57_6)]; exact fun q hh FF => Ke (smU_2 (q2 := (ez_I h 69 6).toInt.toNat + x10.toInt.toNat) (by omega) (by omega) (by omega) sdx28 (.inr (.inl (by omega)))) hh (zW_tr F34 (zW_mono FF x57_0 x57_1 x57_2))) (fun h48 x50 F49 k51 k52 k53 => ?_)
          rw [(show ez_I h26 3 = ez_I h 3 from zW_fn F34 3 x57_7 x57_8), show x46.toInt.toNat = x46.toInt.toNat by omega, show (ez_I h26 69 6).toInt.toNat = q29 by omega] at k52
          rw [(show ez_I h26 2 1 = ez_I h 2 1 from zW_f F34 x57_5 x57_6)] at k51
          have rx50 := z_rng x50
          have vlx50 := vB_lt (tI (ez_I h 3)) (q29) (x46.toInt.toNat)
          have vpx50 := Nat.pow_le_pow_right (n := 2) (by decide) (show x46.toInt.toNat ≤ 16 by omega)
          have S54 := zW_sh F49 S33
          have F55 := zW_tr F34 (zW_mono F49 (x57_0) (x57_1) (x57_2))
          have r56 := z_rng (ez_I h48 69 2)
          have r57 := z_rng (ez_I h48 69 3)
          have r58 := z_rng (ez_I h48 69 6)
          have f59 : ez_I h48 50 1 = (ez_I h 50 1) := (zW_f F49 (fun c => c) (by decide)).trans (f38)
          have A60 : oR (ez_I h48 51) o (ez_I h 50 1).toInt.toNat := by rw [zW_fn F49 51 (fun c => c) (x57_9)]; exact A39
          clear A39
          refine z_add (by omega) (fun x61 ex61 => ?_)
          refine gw_st rfl rfl rfl ?_
          show ez_gw _ _ _ _ _ _ _ _ [some (.ref 69), some (.ref 2), some (.int kd), some (.ref p), some (.int x24), some (.int x28), some (.int x61), none] _ _ _
          refine gw_ld rfl rfl ?_
          refine gw_ld rfl rfl ?_
          refine z_gR (q := 50) (zT S54 (by decide) rfl) (zRf S54 (by decide) (by decide) rfl) (by decide) ?_
          refine z_gI2 (by decide) (zT S54 (by decide) rfl) (f59) ?_
          refine z_b2 (fun c62 => ?_) (fun c62 => ?_)
          · have c62 : x61.toInt ≤ ((ez_I h 50 1)).toInt := c62
            refine gw_skip _ ?_
            refine z_C (m := 0) rfl rfl (fun x63 ex63 => ?_)
            refine gw_st rfl rfl rfl ?_
            show ez_gw _ _ _ _ _ _ _ _ [some (.ref 69), some (.ref 2), some (.int kd), some (.ref p), some (.int x24), some (.int x28), some (.int x61), some (.int x63)] _ _ _
            have t64 := congrArg Int32.toInt (f59)
            exact ez_Wp_at ((c_rMatch_L0 (p := p) (kd := kd) (o := o) S hp hE hM hz hb hpo hm ho hk hL hct hcd hit Ke K (((200000 - x63.toInt)).toNat + 1)) h48 x24 x28 x61 x63 (q29 + x46.toInt.toNat) o (ez_I h 50 1).toInt.toNat F55 (by omega) (smU_3 (q2 := (ez_I h 69 6).toInt.toNat + x10.toInt.toNat) (e := x46.toInt.toNat) (by omega) (by omega) (by omega) sdx28 (by omega) hde.symm (by omega) (by omega) (by omega) (by rw [hle]; omega) (by omega)) (A60) (by omega)) rfl
          · have c62 : ¬ (x61.toInt ≤ ((ez_I h 50 1)).toInt) := c62
            refine gw_ld rfl rfl ?_
            refine z_C (m := 8) rfl rfl (fun x65 ex65 => ?_)
            have t66 := congrArg Int32.toInt (f59)
            refine z_cl rfl rfl rfl rfl rfl rfl rfl rfl rfl rfl rfl (zT S54 (by decide) rfl) ?_
            exact c_fail (i := x65) S54 (zMw F55 hM) (by omega) (fun hh FF => Ke (smU_2 (q2 := (ez_I h 69 6).toInt.toNat + x10.toInt.toNat) (by omega) (by omega) (by omega) sdx28 (.inr (.inr (by rw [hde]; omega)))) hh (zW_tr F55 (zW_mono FF x57_0 x57_1 x57_2))) trivial
        · have c44 : ¬ (x28.toInt < x43.toInt) := c44
          refine gw_ld rfl rfl ?_
          refine z_C (m := 7) rfl rfl (fun x67 ex67 => ?_)
          have t68 := congrArg Int32.toInt (f38)
          refine z_cl rfl rfl rfl rfl rfl rfl rfl rfl rfl rfl rfl (zT S33 (by decide) rfl) ?_
          exact c_fail (i := x67) S33 (zMw F34 hM) (by omega) (fun hh FF => Ke (smU_2 (q2 := (ez_I h 69 6).toInt.toNat + x10.toInt.toNat) (by omega) (by omega) (by omega) sdx28 (.inl (by omega))) hh (zW_tr F34 (zW_mono FF x57_0 x57_1 x57_2))) trivial
    · have c8 : ¬ (kd.toInt < x7.toInt) := c8
      refine gw_ld rfl rfl ?_
      refine z_C (m := 7) rfl rfl (fun x69 ex69 => ?_)
      refine z_cl rfl rfl rfl rfl rfl rfl rfl rfl rfl rfl rfl (zT S (by decide) rfl) ?_
      exact c_fail (i := x69) S (zMw F hM) (by omega) (fun hh FF => Ke (smU_n (.inl (by omega))) hh (zW_tr F (zW_mono FF x57_0 x57_1 x57_2))) trivial
theorem x57_10 : ∀ q k : Nat, (q = 69 ∧ k = 2 ∨ q = 69 ∧ k = 3 ∨ q = 69 ∧ k = 6 ∨ q = 50 ∧ k = 1) → (q = 69 ∧ k = 2 ∨ q = 69 ∧ k = 3 ∨ q = 69 ∧ k = 6 ∨ q = 50 ∧ k = 1) := fun q k hk => hk.elim (fun g => (.inl g)) (fun hk => hk.elim (fun g => (.inr (.inl g))) (fun hk => hk.elim (fun g => (.inr (.inr (.inl g)))) (fun hk => (.inr (.inr (.inr hk))))))
set_option maxRecDepth 4000 in
set_option maxHeartbeats 2000000 in
theorem c_rParts_L0 {E : Nat → Nat × (Nat → Int32)} {d : Nat} {Q : ez_Q} {h : ez_H} {p : Nat} {w : Nat} {o : Nat → Int} (S : zSh h) (hp : p = 15 ∨ p = 22 ∨ p = 29 ∨ p = 36 ∨ p = 43) (hw : w = 15 ∨ w = 22 ∨ w = 29 ∨ w = 36 ∨ w = 43) (hE : zE E) (hM : zMem h) (hz : 0 ≤ (ez_I h 2 1).toInt ∧ (ez_I h 2 1).toInt ≤ 6000) (hb : aR (ez_I h 3) (ez_I h 2 1).toInt.toNat 0 255) (hpo : 0 ≤ (ez_I h 69 6).toInt ∧ (ez_I h 69 6).toInt ≤ 8 * (ez_I h 2 1).toInt) (hm : 0 ≤ (ez_I h 50 1).toInt ∧ (ez_I h 50 1).toInt ≤ 6000) (ho : oR (ez_I h 51) o (ez_I h 50 1).toInt.toNat) (hL : aR (ez_I h (p + 1)) 288 0 15) (hct : ctC (ez_I h (p + 3)) (nL (ez_I h (p + 1))) 288) (hcd : (ez_I h p 4).toInt = (plN (nL (ez_I h (p + 1))) 288 16 : Nat)) (hit : itI (ez_I h (p + 4)) (nL (ez_I h (p + 1))) 288 288) (hLw : aR (ez_I h (w + 1)) 288 0 15) (hctw : ctC (ez_I h (w + 3)) (nL (ez_I h (w + 1))) 288) (hcdw : (ez_I h w 4).toInt = (plN (nL (ez_I h (w + 1))) 288 16 : Nat)) (hitw : itI (ez_I h (w + 4)) (nL (ez_I h (w + 1))) 288 288) (Ke : upP (tI (ez_I h 3)) (ez_I h 2 1).toInt.toNat (nL (ez_I h (p + 1))) 288 (nL (ez_I h (w + 1))) 288 (8 * (ez_I h 2 1).toInt.toNat) (ez_I h 69 6).toInt.toNat o (ez_I h 50 1).toInt.toNat = none → ∀ h2, zW (fun q k => q = 69 ∧ k = 2 ∨ q = 69 ∧ k = 3 ∨ q = 69 ∧ k = 6 ∨ q = 50 ∧ k = 1) (fun q => q = 51) (fun _ => False) h h2 → Q (.inr 2) (ez_bump h2)) (K : ∀ h2, zW (fun q k => q = 69 ∧ k = 2 ∨ q = 69 ∧ k = 3 ∨ q = 69 ∧ k = 6 ∨ q = 50 ∧ k = 1) (fun q => q = 51) (fun _ => False) h h2 → ∀ (q : Nat) (o2 : Nat → Int) (m2 : Nat), upP (tI (ez_I h 3)) (ez_I h 2 1).toInt.toNat (nL (ez_I h (p + 1))) 288 (nL (ez_I h (w + 1))) 288 (8 * (ez_I h 2 1).toInt.toNat) (ez_I h 69 6).toInt.toNat o (ez_I h 50 1).toInt.toNat = some (q, o2, m2) → (ez_I h2 69 6).toInt = q → (ez_I h2 50 1).toInt = m2 → m2 ≤ 6000 → oR (ez_I h2 51) o2 m2 → Q (.inl none) h2) : ∀ N : Nat, (∀ (h2 : ez_H) (n : Int32) (l5 : Option Value) (p2 : Nat) (o2 : Nat → Int) (m2 : Nat), zW (fun q k => q = 69 ∧ k = 2 ∨ q = 69 ∧ k = 3 ∨ q = 69 ∧ k = 6 ∨ q = 50 ∧ k = 1) (fun q => q = 51) (fun _ => False) h h2 → (0 ≤ n.toInt ∧ n.toInt ≤ p2 ∧ (ez_I h2 69 6).toInt = p2 ∧ (p2 : Int) ≤ 8 * (ez_I h 2 1).toInt ∧ (ez_I h2 50 1).toInt = m2 ∧ m2 ≤ 6000) → (upP (tI (ez_I h 3)) (ez_I h 2 1).toInt.toNat (nL (ez_I h (p + 1))) 288 (nL (ez_I h (w + 1))) 288 (8 * (ez_I h 2 1).toInt.toNat) (ez_I h 69 6).toInt.toNat o (ez_I h 50 1).toInt.toNat = upP (tI (ez_I h 3)) (ez_I h 2 1).toInt.toNat (nL (ez_I h (p + 1))) 288 (nL (ez_I h (w + 1))) 288 (8 * (ez_I h 2 1).toInt.toNat) p2 o2 m2) → (oR (ez_I h2 51) o2 m2) → (100000 - n.toInt) < (N : Int) → pw E (d + 4) 138 3 [some (.ref 69), some (.ref 2), some (.ref p), some (.ref w), some (.int n), l5] [] h2 Q) := by
  intro N
  induction N with
  | zero => exact fun h2 n l5 p2 o2 m2 F hinv A_sp A_or hm => absurd hm (by have w_n := z_rng n; have hpB : 15 ≤ p ∧ p ≤ 43 := (by omega); replace hp : codP p := hp; have hwB : 15 ≤ w ∧ w ≤ 43 := (by omega); replace hw : codP w := hw; omega)
  | succ N ih =>
    refine fun h2 n l5 p2 o2 m2 F hinv A_sp A_or hm => ?_
    · skip
      have w_n := z_rng n
      have hpB : 15 ≤ p ∧ p ≤ 43 := (by omega)
      replace hp : codP p := hp
      have hwB : 15 ≤ w ∧ w ≤ 43 := (by omega)
      replace hw : codP w := hw
      have S2 := zW_sh F S
      apply ez_Wp_in
      show ez_gw _ _ _ _ _ _ (cz_138) _ _ _ _ _
      refine gw_skip _ ?_
      have r1 := z_rng (ez_I h2 69 2)
      have r2 := z_rng (ez_I h2 69 3)
      have r3 := z_rng (ez_I h2 69 6)
      have r4 := z_rng (ez_I h2 50 1)
      refine gw_ld rfl rfl ?_
      refine z_C (m := 48000) rfl rfl (fun x5 ex5 => ?_)
      refine z_b2 (fun c6 => ?_) (fun c6 => ?_)
      · have c6 : x5.toInt < n.toInt := c6
        refine gw_skip _ ?_
        refine z_rv ?_
        exfalso; omega
      · have c6 : ¬ (x5.toInt < n.toInt) := c6
        refine gw_ld rfl rfl ?_
        refine gw_ld rfl rfl ?_
        refine gw_ld rfl rfl ?_
        refine z_cl rfl rfl rfl rfl rfl rfl rfl rfl rfl rfl rfl (zT S2 (by decide) rfl) ?_
        refine c_sym (p := p) S2 hp (zMw F hM) (by rw [(show ez_I h2 2 1 = ez_I h 2 1 from zW_f F x57_5 x57_6)]; exact hz) (by rw [(show ez_I h2 2 1 = ez_I h 2 1 from zW_f F x57_5 x57_6), (show ez_I h2 3 = ez_I h 3 from zW_fn F 3 x57_7 x57_8)]; exact hb) (by rw [(show ez_I h2 2 1 = ez_I h 2 1 from zW_f F x57_5 x57_6)]; omega) (show aR (ez_I h2 (p + 1)) 288 0 15 by rw [(show ez_I h2 (p + 1) = ez_I h (p + 1) from zW_fn F (p + 1) (by omega) (fun k c => by omega))]; exact hL) (show ctC (ez_I h2 (p + 3)) (nL (ez_I h2 (p + 1))) 288 by rw [(show ez_I h2 (p + 3) = ez_I h (p + 3) from zW_fn F (p + 3) (by omega) (fun k c => by omega)), (show ez_I h2 (p + 1) = ez_I h (p + 1) from zW_fn F (p + 1) (by omega) (fun k c => by omega))]; exact hct) (show (ez_I h2 p 4).toInt = (plN (nL (ez_I h2 (p + 1))) 288 16 : Nat) by rw [(show ez_I h2 p 4 = ez_I h p 4 from zW_f F (by omega) (by omega)), (show ez_I h2 (p + 1) = ez_I h (p + 1) from zW_fn F (p + 1) (by omega) (fun k c => by omega))]; exact hcd) (show itI (ez_I h2 (p + 4)) (nL (ez_I h2 (p + 1))) 288 288 by rw [(show ez_I h2 (p + 4) = ez_I h (p + 4) from zW_fn F (p + 4) (by omega) (fun k c => by omega)), (show ez_I h2 (p + 1) = ez_I h (p + 1) from zW_fn F (p + 1) (by omega) (fun k c => by omega))]; exact hit) (fun qn hh FF => Ke (by have q2 : sdR (tI (ez_I h2 3)) (ez_I h2 2 1).toInt.toNat (ez_I h2 69 6).toInt.toNat (nL (ez_I h2 (p + 1))) 288 = none := qn; rw [(show ez_I h2 3 = ez_I h 3 from zW_fn F 3 x57_7 x57_8), (show ez_I h2 2 1 = ez_I h 2 1 from zW_f F x57_5 x57_6), (show ez_I h2 (p + 1) = ez_I h (p + 1) from zW_fn F (p + 1) (by omega) (fun k c => by omega)), show (ez_I h2 69 6).toInt.toNat = p2 by omega] at q2; exact A_sp.trans (upP_n (by unfold stP; rw [q2]))) hh (zW_tr F (zW_mono FF x57_0 x57_1 x57_2))) (fun h7 x9 F8 q10 k11 k12 k13 => ?_)
        have sdx9 : sdR (tI (ez_I h2 3)) (ez_I h2 2 1).toInt.toNat (ez_I h2 69 6).toInt.toNat (nL (ez_I h2 (p + 1))) 288 = some (x9.toInt.toNat, q10) := k11
        rw [(show ez_I h2 3 = ez_I h 3 from zW_fn F 3 x57_7 x57_8), (show ez_I h2 2 1 = ez_I h 2 1 from zW_f F x57_5 x57_6), (show ez_I h2 (p + 1) = ez_I h (p + 1) from zW_fn F (p + 1) (by omega) (fun k c => by omega)), show (ez_I h2 69 6).toInt.toNat = p2 by omega] at sdx9
        have rx9 := z_rng x9
        have sox9 := sdR_ok sdx9
        have ssx9 := sdR_s sdx9
        have S14 := zW_sh F8 S2
        have F15 := zW_tr F (zW_mono F8 (x57_0) (x57_1) (x57_2))
        have r16 := z_rng (ez_I h7 69 2)
        have r17 := z_rng (ez_I h7 69 3)
        have r18 := z_rng (ez_I h7 69 6)
        have f19 : ez_I h7 50 1 = (ez_I h2 50 1) := (zW_f F8 (fun c => c) (by decide)).trans (rfl)
        have A20 : oR (ez_I h7 51) o2 m2 := by rw [zW_fn F8 51 (fun c => c) (x57_9)]; exact A_or
        refine gw_st rfl rfl rfl ?_
        show ez_gw _ _ _ _ _ _ _ _ [some (.ref 69), some (.ref 2), some (.ref p), some (.ref w), some (.int n), some (.int x9)] _ _ _
        refine gw_ld rfl rfl ?_
        refine z_C (m := 256) rfl rfl (fun x21 ex21 => ?_)
        refine z_b2 (fun c22 => ?_) (fun c22 => ?_)
        · have c22 : x9.toInt ≠ x21.toInt := c22
          refine gw_skip _ ?_
          refine gw_ld rfl rfl ?_
          refine z_C (m := 256) rfl rfl (fun x23 ex23 => ?_)
          refine z_b2 (fun c24 => ?_) (fun c24 => ?_)
          · have c24 : x23.toInt ≤ x9.toInt := c24
            refine gw_skip _ ?_
            refine gw_ld rfl rfl ?_
            refine gw_ld rfl rfl ?_
            refine gw_ld rfl rfl ?_
            refine z_C (m := 257) rfl rfl (fun x25 ex25 => ?_)
            refine z_sub (by omega) (fun x26 ex26 => ?_)
            refine gw_ld rfl rfl ?_
            have t27 := congrArg Int32.toInt (f19)
            refine z_cl rfl rfl rfl rfl rfl rfl rfl rfl rfl rfl rfl (zT S14 (by decide) rfl) ?_
            refine c_rMatch (p := w) (kd := x26) (o := o2) S14 hw hE (zMw F15 hM) (by rw [(show ez_I h7 2 1 = ez_I h 2 1 from zW_f F15 x57_5 x57_6)]; exact hz) (by rw [(show ez_I h7 2 1 = ez_I h 2 1 from zW_f F15 x57_5 x57_6), (show ez_I h7 3 = ez_I h 3 from zW_fn F15 3 x57_7 x57_8)]; exact hb) (by rw [(show ez_I h7 2 1 = ez_I h 2 1 from zW_f F15 x57_5 x57_6)]; omega) (by omega) (by rw [show (ez_I h7 50 1).toInt.toNat = m2 by omega]; exact A20) (by omega) (by rw [(show ez_I h7 (w + 1) = ez_I h (w + 1) from zW_fn F15 (w + 1) (by omega) (fun k c => by omega))]; exact hLw) (by rw [(show ez_I h7 (w + 3) = ez_I h (w + 3) from zW_fn F15 (w + 3) (by omega) (fun k c => by omega)), (show ez_I h7 (w + 1) = ez_I h (w + 1) from zW_fn F15 (w + 1) (by omega) (fun k c => by omega))]; exact hctw) (by rw [(show ez_I h7 w 4 = ez_I h w 4 from zW_f F15 (by omega) (by omega)), (show ez_I h7 (w + 1) = ez_I h (w + 1) from zW_fn F15 (w + 1) (by omega) (fun k c => by omega))]; exact hcdw) (by rw [(show ez_I h7 (w + 4) = ez_I h (w + 4) from zW_fn F15 (w + 4) (by omega) (fun k c => by omega)), (show ez_I h7 (w + 1) = ez_I h (w + 1) from zW_fn F15 (w + 1) (by omega) (fun k c => by omega))]; exact hitw) (fun qn hh FF => Ke (by have q2 : smU (tI (ez_I h7 3)) (ez_I h7 2 1).toInt.toNat (nL (ez_I h7 (w + 1))) 288 (ez_I h7 69 6).toInt.toNat x26.toInt.toNat o2 (ez_I h7 50 1).toInt.toNat = none := qn; rw [(show ez_I h7 3 = ez_I h 3 from zW_fn F15 3 x57_7 x57_8), (show ez_I h7 2 1 = ez_I h 2 1 from zW_f F15 x57_5 x57_6), (show ez_I h7 (w + 1) = ez_I h (w + 1) from zW_fn F15 (w + 1) (by omega) (fun k c => by omega)), show (ez_I h7 69 6).toInt.toNat = q10 by omega, show (ez_I h7 50 1).toInt.toNat = m2 by omega] at q2; exact A_sp.trans (upP_n (by rw [stP_m sdx9 (by omega) (show x26.toInt.toNat = _ by omega), q2]; rfl))) hh (zW_tr F15 (zW_mono FF x57_10 x57_4 x57_2))) (fun h28 F29 q30 o31 m32 k33 k34 k35 k36 k37 => ?_)
            have hmt : smU (tI (ez_I h7 3)) (ez_I h7 2 1).toInt.toNat (nL (ez_I h7 (w + 1))) 288 (ez_I h7 69 6).toInt.toNat x26.toInt.toNat o2 (ez_I h7 50 1).toInt.toNat = some (q30, o31, m32) := k33
            rw [(show ez_I h7 3 = ez_I h 3 from zW_fn F15 3 x57_7 x57_8), (show ez_I h7 2 1 = ez_I h 2 1 from zW_f F15 x57_5 x57_6), (show ez_I h7 (w + 1) = ez_I h (w + 1) from zW_fn F15 (w + 1) (by omega) (fun k c => by omega)), show (ez_I h7 69 6).toInt.toNat = q10 by omega, show (ez_I h7 50 1).toInt.toNat = m2 by omega] at hmt
            have hst : stP (tI (ez_I h 3)) (ez_I h 2 1).toInt.toNat (nL (ez_I h (p + 1))) 288 (nL (ez_I h (w + 1))) 288 p2 o2 m2 = some (false, q30, o31, m32) := by rw [stP_m sdx9 (by omega) (show x26.toInt.toNat = _ by omega), hmt]; rfl
            have hso := stP_ok hst
            have hso2 : p2 < q30 ∧ q30 ≤ 8 * (ez_I h 2 1).toInt.toNat := hso
            have S38 := zW_sh F29 S14
            have F39 := zW_tr F15 (zW_mono F29 (x57_10) (x57_4) (x57_2))
            have r40 := z_rng (ez_I h28 69 2)
            have r41 := z_rng (ez_I h28 69 3)
            have r42 := z_rng (ez_I h28 69 6)
            have r43 := z_rng (ez_I h28 50 1)
            refine z_inc rfl (by rw [show (1 : Int32).toInt = 1 from rfl]; omega) (fun x44 ex44 => ?_)
            rw [show (1 : Int32).toInt = 1 from rfl] at ex44
            show ez_gw _ _ _ _ _ _ _ _ [some (.ref 69), some (.ref 2), some (.ref p), some (.ref w), some (.int x44), some (.int x9)] _ _ _
            refine z_go ?_
            exact ih h28 x44 (some (.int x9)) q30 o31 m32 F39 (by omega) (A_sp.trans (upP_g hst)) (k37) (by omega)
          · have c24 : ¬ (x23.toInt ≤ x9.toInt) := c24
            refine gw_ld rfl rfl ?_
            refine gw_ld rfl rfl ?_
            have t45 := congrArg Int32.toInt (f19)
            refine z_cl rfl rfl rfl rfl rfl rfl rfl rfl rfl rfl rfl (zT S14 (by decide) rfl) ?_
            refine c_putB (v := x9) S14 (zMw F15 hM) (by omega) (by omega) (fun q hh FF => Ke (A_sp.trans (upP_n (by rw [stP_b sdx9 (by omega), if_pos (by omega)]))) hh (zW_tr F15 (zW_mono FF x57_0 x57_1 x57_2))) (fun h46 F47 k48 k49 k50 k51 => ?_)
            rw [show (ez_I h7 50 1).toInt.toNat = m2 by omega] at k50 k51
            have A52 : oR (ez_I h46 51) (putT o2 m2 (x9.toInt.toNat : Nat)) (m2 + 1) := oR_put A20 (by rw [k50]; omega) k51 rfl
            have S53 := zW_sh F47 S14
            have F54 := zW_tr F15 (zW_mono F47 (x57_3) (x57_4) (x57_2))
            have f55 : ez_I h46 69 2 = (ez_I h7 69 2) := (zW_f F47 (by decide) (by decide)).trans (rfl)
            have f56 : ez_I h46 69 3 = (ez_I h7 69 3) := (zW_f F47 (by decide) (by decide)).trans (rfl)
            have f57 : ez_I h46 69 6 = (ez_I h7 69 6) := (zW_f F47 (by decide) (by decide)).trans (rfl)
            have r58 := z_rng (ez_I h46 50 1)
            refine z_go ?_
            refine gw_skip _ ?_
            refine z_inc rfl (by rw [show (1 : Int32).toInt = 1 from rfl]; omega) (fun x59 ex59 => ?_)
            rw [show (1 : Int32).toInt = 1 from rfl] at ex59
            show ez_gw _ _ _ _ _ _ _ _ [some (.ref 69), some (.ref 2), some (.ref p), some (.ref w), some (.int x59), some (.int x9)] _ _ _
            refine z_go ?_
            have t60 := congrArg Int32.toInt (f55)
            have t61 := congrArg Int32.toInt (f56)
            have t62 := congrArg Int32.toInt (f57)
            exact ih h46 x59 (some (.int x9)) q10 (putT o2 m2 (x9.toInt.toNat : Nat)) (m2 + 1) F54 (by omega) (A_sp.trans (upP_g (r := (q10, (putT o2 m2 (x9.toInt.toNat : Nat)), (m2 + 1))) (by rw [stP_b sdx9 (by omega), if_neg (by omega)]))) (A52) (by omega)
        · have c22 : ¬ (x9.toInt ≠ x21.toInt) := c22
          refine z_rv ?_
          have t63 := congrArg Int32.toInt (f19)
          exact K _ F15 q10 o2 m2 (A_sp.trans (upP_t (stP_e (by rw [sdx9]; congr 2; omega)))) (by omega) (by omega) (by omega) A20
set_option maxRecDepth 4000 in
set_option maxHeartbeats 2000000 in
theorem c_rParts {E : Nat → Nat × (Nat → Int32)} {d : Nat} {Q : ez_Q} {h : ez_H} {p : Nat} {w : Nat} {o : Nat → Int} (S : zSh h) (hp : p = 15 ∨ p = 22 ∨ p = 29 ∨ p = 36 ∨ p = 43) (hw : w = 15 ∨ w = 22 ∨ w = 29 ∨ w = 36 ∨ w = 43) (hE : zE E) (hM : zMem h) (hz : 0 ≤ (ez_I h 2 1).toInt ∧ (ez_I h 2 1).toInt ≤ 6000) (hb : aR (ez_I h 3) (ez_I h 2 1).toInt.toNat 0 255) (hpo : 0 ≤ (ez_I h 69 6).toInt ∧ (ez_I h 69 6).toInt ≤ 8 * (ez_I h 2 1).toInt) (hm : 0 ≤ (ez_I h 50 1).toInt ∧ (ez_I h 50 1).toInt ≤ 6000) (ho : oR (ez_I h 51) o (ez_I h 50 1).toInt.toNat) (hL : aR (ez_I h (p + 1)) 288 0 15) (hct : ctC (ez_I h (p + 3)) (nL (ez_I h (p + 1))) 288) (hcd : (ez_I h p 4).toInt = (plN (nL (ez_I h (p + 1))) 288 16 : Nat)) (hit : itI (ez_I h (p + 4)) (nL (ez_I h (p + 1))) 288 288) (hLw : aR (ez_I h (w + 1)) 288 0 15) (hctw : ctC (ez_I h (w + 3)) (nL (ez_I h (w + 1))) 288) (hcdw : (ez_I h w 4).toInt = (plN (nL (ez_I h (w + 1))) 288 16 : Nat)) (hitw : itI (ez_I h (w + 4)) (nL (ez_I h (w + 1))) 288 288) (Ke : upP (tI (ez_I h 3)) (ez_I h 2 1).toInt.toNat (nL (ez_I h (p + 1))) 288 (nL (ez_I h (w + 1))) 288 (8 * (ez_I h 2 1).toInt.toNat) (ez_I h 69 6).toInt.toNat o (ez_I h 50 1).toInt.toNat = none → ∀ h2, zW (fun q k => q = 69 ∧ k = 2 ∨ q = 69 ∧ k = 3 ∨ q = 69 ∧ k = 6 ∨ q = 50 ∧ k = 1) (fun q => q = 51) (fun _ => False) h h2 → Q (.inr 2) (ez_bump h2)) (K : ∀ h2, zW (fun q k => q = 69 ∧ k = 2 ∨ q = 69 ∧ k = 3 ∨ q = 69 ∧ k = 6 ∨ q = 50 ∧ k = 1) (fun q => q = 51) (fun _ => False) h h2 → ∀ (q : Nat) (o2 : Nat → Int) (m2 : Nat), upP (tI (ez_I h 3)) (ez_I h 2 1).toInt.toNat (nL (ez_I h (p + 1))) 288 (nL (ez_I h (w + 1))) 288 (8 * (ez_I h 2 1).toInt.toNat) (ez_I h 69 6).toInt.toNat o (ez_I h 50 1).toInt.toNat = some (q, o2, m2) → (ez_I h2 69 6).toInt = q → (ez_I h2 50 1).toInt = m2 → m2 ≤ 6000 → oR (ez_I h2 51) o2 m2 → Q (.inl none) h2) : pw E (d + 4) 138 0 [some (.ref 69), some (.ref 2), some (.ref p), some (.ref w), none, none] [] h Q := by
  have hpB : 15 ≤ p ∧ p ≤ 43 := (by omega)
  replace hp : codP p := hp
  have hwB : 15 ≤ w ∧ w ≤ 43 := (by omega)
  replace hw : codP w := hw
  have F := zW_refl (fun q k => q = 69 ∧ k = 2 ∨ q = 69 ∧ k = 3 ∨ q = 69 ∧ k = 6 ∨ q = 50 ∧ k = 1) (fun q => q = 51) (fun _ => False) h
  apply ez_Wp_in
  show ez_gw _ _ _ _ _ _ (cz_138) _ _ _ _ _
  refine gw_skip _ ?_
  have r1 := z_rng (ez_I h 69 2)
  have r2 := z_rng (ez_I h 69 3)
  have r3 := z_rng (ez_I h 69 6)
  have r4 := z_rng (ez_I h 50 1)
  refine z_C (m := 0) rfl rfl (fun x5 ex5 => ?_)
  refine gw_st rfl rfl rfl ?_
  show ez_gw _ _ _ _ _ _ _ _ [some (.ref 69), some (.ref 2), some (.ref p), some (.ref w), some (.int x5), none] _ _ _
  exact ez_Wp_at ((c_rParts_L0 (p := p) (w := w) (o := o) S hp hw hE hM hz hb hpo hm ho hL hct hcd hit hLw hctw hcdw hitw Ke K (((100000 - x5.toInt)).toNat + 1)) h x5 (none) (ez_I h 69 6).toInt.toNat o (ez_I h 50 1).toInt.toNat F (by omega) (rfl) (ho) (by omega)) rfl
