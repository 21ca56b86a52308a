/-! PRINTED by wip/pack: a byte put out by the model -/
set_option maxRecDepth 4000 in
set_option maxHeartbeats 2000000 in
theorem d_give {E : Nat → Nat × (Nat → Int32)} {d : Nat} {Q : ez_Q} {h : ez_H} {v : Int32} (S : zSh h) (hg : 0 ≤ (ez_I h 71 60).toInt ∧ (ez_I h 71 60).toInt ≤ 6000) (hv : 0 ≤ v.toInt ∧ v.toInt ≤ 255) (K : ∀ h2, zW (fun q k => q = 71 ∧ k = 60 ∨ q = 71 ∧ k = 61) (fun q => q = 76) (fun _ => False) h h2 → ((ez_I h 71 60).toInt = 6000 → ((ez_I h 71 61).toInt = 0 → (ez_I h2 71 61).toInt = 9) ∧ ((ez_I h 71 61).toInt ≠ 0 → (ez_I h2 71 61).toInt = (ez_I h 71 61).toInt) ∧ (ez_I h2 71 60).toInt = (ez_I h 71 60).toInt ∧ ez_I h2 76 = ez_I h 76) → ((ez_I h 71 60).toInt < 6000 → (ez_I h2 71 60).toInt = (ez_I h 71 60).toInt + 1 ∧ (ez_I h2 71 61).toInt = (ez_I h 71 61).toInt ∧ ((ez_I h2 76 (ez_I h 71 60).toInt.toNat).toInt % 256 = v.toInt ∧ ∀ k, k ≠ (ez_I h 71 60).toInt.toNat → ez_I h2 76 k = ez_I h 76 k)) → Q (.inl none) h2) : pw E (d + 1) 53 0 [some (.ref 71), some (.int v)] [] h Q := by
  have gv := z_rng v
  have F := zW_refl (fun q k => q = 71 ∧ k = 60 ∨ q = 71 ∧ k = 61) (fun q => q = 76) (fun _ => False) h
  apply ez_Wp_in
  show ez_gw _ _ _ _ _ _ (cz_53) _ _ _ _ _
  refine gw_skip _ ?_
  have r1 := z_rng (ez_I h 71 60)
  have r2 := z_rng (ez_I h 71 61)
  refine gw_ld rfl rfl ?_
  refine z_gI2 (by decide) (zT S (by decide) rfl) (rfl) ?_
  refine z_C (m := 6000) rfl rfl (fun x3 ex3 => ?_)
  refine z_b2 (fun c4 => ?_) (fun c4 => ?_)
  · have c4 : ((ez_I h 71 60)).toInt ≠ x3.toInt := c4
    refine gw_skip _ ?_
    refine gw_ld rfl rfl ?_
    refine z_gR (q := 76) (zT S (by decide) rfl) (zRf S (by decide) (by decide) rfl) (by decide) ?_
    refine gw_ld rfl rfl ?_
    refine z_gI2 (by decide) (zT S (by decide) rfl) (rfl) ?_
    refine gw_ld rfl rfl ?_
    refine z_1 rfl (fun x5 ex5 => ?_)
    have rx5 := z_rng x5
    have vx5 := n_i2b v
    refine z_bs (n := 6000) (zT S (by decide) rfl) (zN S (by decide) rfl) (by omega) (fun h6 e7 => ?_)
    have S9 := zSh_set S e7
    have F10 := zW_setA F e7 (by omega)
    have f11 : ez_I h6 71 60 = (ez_I h 71 60) := (zI_ne e7 (by omega)).trans (rfl)
    have f12 : ez_I h6 71 61 = (ez_I h 71 61) := (zI_ne e7 (by omega)).trans (rfl)
    have A13 : ((ez_I h6 76 (ez_I h 71 60).toInt.toNat).toInt % 256 = v.toInt ∧ ∀ k, k ≠ (ez_I h 71 60).toInt.toNat → ez_I h6 76 k = ez_I h 76 k) := ⟨by rw [show (ez_I h 71 60).toInt.toNat = ((ez_I h 71 60)).toInt.toNat by omega, zI_eq e7, n_i2b, ex5, n_i2b]; omega, fun k hk => zI_ne e7 (by omega)⟩
    refine gw_ld rfl rfl ?_
    refine gw_op rfl ?_
    refine z_gI2 (by decide) (zT S9 (by decide) rfl) (f11) ?_
    refine z_C (m := 1) rfl rfl (fun x14 ex14 => ?_)
    refine z_add (by omega) (fun x15 ex15 => ?_)
    refine z_pI (zT S9 (by decide) rfl) (fun h16 e17 => ?_)
    have S18 := zSh_set S9 e17
    have F19 := zW_setF F10 e17 (by omega)
    have f20 : ez_I h16 71 60 = x15 := zI_eq e17
    have f21 : ez_I h16 71 61 = (ez_I h 71 61) := (zI_ne e17 (by decide)).trans (f12)
    have A22 : ((ez_I h16 76 (ez_I h 71 60).toInt.toNat).toInt % 256 = v.toInt ∧ ∀ k, k ≠ (ez_I h 71 60).toInt.toNat → ez_I h16 76 k = ez_I h 76 k) := by rw [zI_fn e17 76 (by decide)]; exact A13
    clear A13
    refine z_rv ?_
    have t23 := congrArg Int32.toInt (f20)
    have t24 := congrArg Int32.toInt (f21)
    exact K _ F19 (fun q => by exfalso; omega) (fun q => ⟨by omega, by omega, A22⟩)
  · have c4 : ¬ (((ez_I h 71 60)).toInt ≠ x3.toInt) := c4
    refine gw_ld rfl rfl ?_
    refine z_C (m := 9) rfl rfl (fun x25 ex25 => ?_)
    refine z_cl rfl rfl rfl rfl rfl rfl rfl rfl rfl rfl rfl (zT S (by decide) rfl) ?_
    refine d_wrong (n := x25) S (fun h26 F27 k28 k29 => ?_)
    have S30 := zW_sh F27 S
    have F31 := zW_tr F (zW_mono F27 (fun q k hk => by first | omega | exact False.elim hk) (fun q hk => by first | omega | exact False.elim hk) (fun q hk => by first | omega | exact False.elim hk))
    have f32 : ez_I h26 71 60 = (ez_I h 71 60) := (zW_f F27 (fun c => c) (by decide)).trans (rfl)
    have r33 := z_rng (ez_I h26 71 61)
    have A34 : ez_I h26 76 = ez_I h 76 := by rw [zW_fn F27 76 (fun c => c) (fun k c => by omega)]
    refine z_rv ?_
    have t35 := congrArg Int32.toInt (f32)
    exact K _ F31 (fun q => ⟨fun q2 => by omega, fun q2 => by omega, by omega, A34⟩) (fun q => by exfalso; omega)
