/-! PRINTED by wip/pack: a byte put out; the reading begun -/
set_option maxRecDepth 4000 in
set_option maxHeartbeats 2000000 in
theorem c_putB {E : Nat → Nat × (Nat → Int32)} {d : Nat} {Q : ez_Q} {h : ez_H} {v : Int32} (S : zSh h) (hM : zMem h) (hz : 0 ≤ (ez_I h 50 1).toInt ∧ (ez_I h 50 1).toInt ≤ 6000) (hpo : 0 ≤ (ez_I h 69 6).toInt ∧ (ez_I h 69 6).toInt ≤ 50000) (Ke : 6000 ≤ (ez_I h 50 1).toInt → ∀ h2, zW (fun q k => q = 69 ∧ k = 2 ∨ q = 69 ∧ k = 3 ∨ q = 69 ∧ k = 6) (fun _ => False) (fun _ => False) h h2 → Q (.inr 2) (ez_bump h2)) (K : ∀ h2, zW (fun q k => q = 50 ∧ k = 1) (fun q => q = 51) (fun _ => False) h h2 → (ez_I h 50 1).toInt < 6000 → (ez_I h2 50 1).toInt = (ez_I h 50 1).toInt + 1 → ez_I h2 51 (ez_I h 50 1).toInt.toNat = v → (∀ k, k ≠ (ez_I h 50 1).toInt.toNat → ez_I h2 51 k = ez_I h 51 k) → Q (.inl none) h2) : pw E (d + 1) 140 0 [some (.ref 69), some (.int v)] [] h Q := by
  have gv := z_rng v
  have F := zW_refl (fun q k => q = 69 ∧ k = 2 ∨ q = 69 ∧ k = 3 ∨ q = 69 ∧ k = 6 ∨ q = 50 ∧ k = 1) (fun q => q = 51) (fun _ => False) h
  apply ez_Wp_in
  show ez_gw _ _ _ _ _ _ (cz_140) _ _ _ _ _
  refine gw_skip _ ?_
  have r1 := z_rng (ez_I h 69 2)
  have r2 := z_rng (ez_I h 69 3)
  have r3 := z_rng (ez_I h 69 6)
  have r4 := z_rng (ez_I h 50 1)
  refine gw_ld rfl rfl ?_
  refine z_gR (q := 50) (zT S (by decide) rfl) (zRf S (by decide) (by decide) rfl) (by decide) ?_
  refine z_gI2 (by decide) (zT S (by decide) rfl) (rfl) ?_
  refine z_C (m := 6000) rfl rfl (fun x5 ex5 => ?_)
  refine z_b2 (fun c6 => ?_) (fun c6 => ?_)
  · have c6 : ((ez_I h 50 1)).toInt < x5.toInt := c6
    refine gw_skip _ ?_
    refine gw_ld rfl rfl ?_
    refine z_gR (q := 50) (zT S (by decide) rfl) (zRf S (by decide) (by decide) rfl) (by decide) ?_
    refine gw_ld rfl rfl ?_
    refine z_cl rfl rfl rfl rfl rfl rfl rfl rfl rfl rfl rfl (zT S (by decide) rfl) ?_
    refine c_add (p := 50) (v := v) S (by decide) (by omega) (fun h7 F8 k9 k10 k11 => ?_)
    have FK := F8
    have S12 := zW_sh F8 S
    have F13 := zW_tr F (zW_mono F8 (fun q k hk => by first | omega | exact False.elim hk) (fun q hk => by first | omega | exact False.elim hk) (fun q hk => by first | omega | exact False.elim hk))
    have f14 : ez_I h7 69 2 = (ez_I h 69 2) := (zW_f F8 (by decide) (by decide)).trans (rfl)
    have f15 : ez_I h7 69 3 = (ez_I h 69 3) := (zW_f F8 (by decide) (by decide)).trans (rfl)
    have f16 : ez_I h7 69 6 = (ez_I h 69 6) := (zW_f F8 (by decide) (by decide)).trans (rfl)
    have r17 := z_rng (ez_I h7 50 1)
    refine z_rv ?_
    have t18 := congrArg Int32.toInt (f14)
    have t19 := congrArg Int32.toInt (f15)
    have t20 := congrArg Int32.toInt (f16)
    exact K _ FK (by omega) k9 k10 k11
  · have c6 : ¬ (((ez_I h 50 1)).toInt < x5.toInt) := c6
    refine gw_ld rfl rfl ?_
    refine z_C (m := 9) rfl rfl (fun x21 ex21 => ?_)
    refine z_cl rfl rfl rfl rfl rfl rfl rfl rfl rfl rfl rfl (zT S (by decide) rfl) ?_
    exact c_fail (i := x21) S (zMw F hM) hpo (fun hh FF => Ke (by omega) hh FF) trivial
set_option maxRecDepth 4000 in
set_option maxHeartbeats 2000000 in
theorem c_ubegin {E : Nat → Nat × (Nat → Int32)} {d : Nat} {Q : ez_Q} {h : ez_H}  (S : zSh h)  (K : ∀ h2, zW (fun q k => q = 50 ∧ k = 1 ∨ q = 69 ∧ k = 1 ∨ q = 69 ∧ k = 2 ∨ q = 69 ∧ k = 3 ∨ q = 69 ∧ k = 6) (fun _ => False) (fun _ => False) h h2 → (ez_I h2 50 1).toInt = 0 → (ez_I h2 69 1).toInt = 0 → (ez_I h2 69 2).toInt = 0 → (ez_I h2 69 6).toInt = 0 → Q (.inl none) h2) : pw E d 132 0 [some (.ref 69)] [] h Q := by
  have F := zW_refl (fun q k => q = 50 ∧ k = 1 ∨ q = 69 ∧ k = 1 ∨ q = 69 ∧ k = 2 ∨ q = 69 ∧ k = 3 ∨ q = 69 ∧ k = 6) (fun _ => False) (fun _ => False) h
  apply ez_Wp_in
  show ez_gw _ _ _ _ _ _ (cz_132) _ _ _ _ _
  refine gw_skip _ ?_
  have r1 := z_rng (ez_I h 50 1)
  have r2 := z_rng (ez_I h 69 1)
  have r3 := z_rng (ez_I h 69 2)
  have r4 := z_rng (ez_I h 69 3)
  have r5 := z_rng (ez_I h 69 6)
  refine gw_ld rfl rfl ?_
  refine z_gR (q := 50) (zT S (by decide) rfl) (zRf S (by decide) (by decide) rfl) (by decide) ?_
  refine z_C (m := 0) rfl rfl (fun x6 ex6 => ?_)
  refine z_pI (zT S (by decide) rfl) (fun h7 e8 => ?_)
  have S9 := zSh_set S e8
  have F10 := zW_setF F e8 (by omega)
  have f11 : ez_I h7 50 1 = x6 := zI_eq e8
  have f12 : ez_I h7 69 1 = (ez_I h 69 1) := (zI_ne e8 (by decide)).trans (rfl)
  have f13 : ez_I h7 69 2 = (ez_I h 69 2) := (zI_ne e8 (by decide)).trans (rfl)
  have f14 : ez_I h7 69 3 = (ez_I h 69 3) := (zI_ne e8 (by decide)).trans (rfl)
  have f15 : ez_I h7 69 6 = (ez_I h 69 6) := (zI_ne e8 (by decide)).trans (rfl)
  refine gw_ld rfl rfl ?_
  refine z_C (m := 0) rfl rfl (fun x16 ex16 => ?_)
  refine z_pZ (zT S9 (by decide) rfl) (by omega) (fun h17 e18 => ?_)
  have S19 := zSh_set S9 e18
  have F20 := zW_setF F10 e18 (by omega)
  have f21 : ez_I h17 50 1 = x6 := (zI_ne e18 (by decide)).trans (f11)
  have f22 : ez_I h17 69 1 = x16 := zI_eq e18
  have f23 : ez_I h17 69 2 = (ez_I h 69 2) := (zI_ne e18 (by decide)).trans (f13)
  have f24 : ez_I h17 69 3 = (ez_I h 69 3) := (zI_ne e18 (by decide)).trans (f14)
  have f25 : ez_I h17 69 6 = (ez_I h 69 6) := (zI_ne e18 (by decide)).trans (f15)
  refine gw_ld rfl rfl ?_
  refine z_C (m := 0) rfl rfl (fun x26 ex26 => ?_)
  refine z_pI (zT S19 (by decide) rfl) (fun h27 e28 => ?_)
  have S29 := zSh_set S19 e28
  have F30 := zW_setF F20 e28 (by omega)
  have f31 : ez_I h27 50 1 = x6 := (zI_ne e28 (by decide)).trans (f21)
  have f32 : ez_I h27 69 1 = x16 := (zI_ne e28 (by decide)).trans (f22)
  have f33 : ez_I h27 69 2 = x26 := zI_eq e28
  have f34 : ez_I h27 69 3 = (ez_I h 69 3) := (zI_ne e28 (by decide)).trans (f24)
  have f35 : ez_I h27 69 6 = (ez_I h 69 6) := (zI_ne e28 (by decide)).trans (f25)
  refine gw_ld rfl rfl ?_
  refine z_C (m := -1) rfl rfl (fun x36 ex36 => ?_)
  refine z_pI (zT S29 (by decide) rfl) (fun h37 e38 => ?_)
  have S39 := zSh_set S29 e38
  have F40 := zW_setF F30 e38 (by omega)
  have f41 : ez_I h37 50 1 = x6 := (zI_ne e38 (by decide)).trans (f31)
  have f42 : ez_I h37 69 1 = x16 := (zI_ne e38 (by decide)).trans (f32)
  have f43 : ez_I h37 69 2 = x26 := (zI_ne e38 (by decide)).trans (f33)
  have f44 : ez_I h37 69 3 = x36 := zI_eq e38
  have f45 : ez_I h37 69 6 = (ez_I h 69 6) := (zI_ne e38 (by decide)).trans (f35)
  refine gw_ld rfl rfl ?_
  refine z_C (m := 0) rfl rfl (fun x46 ex46 => ?_)
  refine z_pI (zT S39 (by decide) rfl) (fun h47 e48 => ?_)
  have S49 := zSh_set S39 e48
  have F50 := zW_setF F40 e48 (by omega)
  have f51 : ez_I h47 50 1 = x6 := (zI_ne e48 (by decide)).trans (f41)
  have f52 : ez_I h47 69 1 = x16 := (zI_ne e48 (by decide)).trans (f42)
  have f53 : ez_I h47 69 2 = x26 := (zI_ne e48 (by decide)).trans (f43)
  have f54 : ez_I h47 69 3 = x36 := (zI_ne e48 (by decide)).trans (f44)
  have f55 : ez_I h47 69 6 = x46 := zI_eq e48
  refine z_rv ?_
  have t56 := congrArg Int32.toInt (f51)
  have t57 := congrArg Int32.toInt (f52)
  have t58 := congrArg Int32.toInt (f53)
  have t59 := congrArg Int32.toInt (f54)
  have t60 := congrArg Int32.toInt (f55)
  exact K _ F50 (by omega) (by omega) (by omega) (by omega)
