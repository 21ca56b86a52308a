section
/-! a bit turned -/
noncomputable def flF (b z : Int32) : Int32 := z ^^^ ((1 : Int32) <<< (b &&& 31))
theorem flF_is {b z o w y : Int32} (ho : o.toInt = 1) (gw : w = o <<< (b &&& 31)) (gy : y = z ^^^ w) : y = flF b z := by
  have eo : o = 1 := z_inj ho
  subst eo; subst gw; subst gy
  rfl
theorem n_mod256 (x : Int32) : x.toInt % 256 = ((ev_u x % 256 : Nat) : Int) := by
  by_cases c : 0 ≤ x.toInt
  · have := z_u c; omega
  · have := z_u' (x := x) (by omega); omega
/-- class and model turn the same bit -/
theorem flF_rel {b c m : Int32} (h : c.toInt = m.toInt % 256) (hb : 0 ≤ b.toInt ∧ b.toInt ≤ 7) : (flF b c).toInt = ((flF b m).toInt8.toInt32).toInt % 256 ∧ 0 ≤ (flF b c).toInt ∧ (flF b c).toInt ≤ 255 := by
  have hw : ev_u ((1 : Int32) <<< (b &&& 31)) = 2 ^ b.toInt.toNat := u_shl (T := b.toInt.toNat) rfl (by omega) (by omega) rfl
  have hp : (2 : Nat) ^ b.toInt.toNat < 2 ^ 8 := Nat.pow_lt_pow_right (by decide) (by omega)
  have hc : c.toInt = ((ev_u m % 256 : Nat) : Int) := by rw [h, n_mod256]
  have hcu := z_u (x := c) (by omega)
  have e1 : ev_u c = ev_u m % 2 ^ 8 := by
    show _ = ev_u m % 256
    omega
  have e2 : ev_u (flF b c) = (ev_u m % 2 ^ 8) ^^^ 2 ^ b.toInt.toNat := by
    unfold flF
    rw [ef_xor_ok, hw, e1]
    rfl
  have e3 : ev_u (flF b m) = ev_u m ^^^ 2 ^ b.toInt.toNat := by
    unfold flF
    rw [ef_xor_ok, hw]
    rfl
  have e4 : ev_u (flF b m) % 2 ^ 8 = ev_u (flF b c) := by
    rw [e2, e3, Nat.xor_mod_two_pow, Nat.mod_eq_of_lt hp]
  have e5 : ev_u (flF b c) < 256 := by
    rw [← e4]
    exact Nat.mod_lt _ (by decide)
  have e6 := z_of_u (x := flF b c) (by omega)
  rw [n_i2b, n_mod256]
  have e7 : ev_u (flF b m) % 256 = ev_u (flF b c) := e4
  omega
theorem n_b2 (x : Int32) : (x.toInt8.toInt32).toInt8.toInt32 = x.toInt8.toInt32 := by
  apply z_inj
  have a := n_i2b_rng x
  rw [Int8.toInt_toInt32, Int32.toInt_toInt8]
  rw [Int.bmod_def]
  split <;> omega
/-! PRINTED by wip/pack: the small calls of both -/
set_option maxRecDepth 4000 in
set_option maxHeartbeats 2000000 in
theorem x_cutF {E : Nat → Nat × (Nat → Int32)} {d : Nat} {Q : ez_Q} {h : ez_H} {n : Int32} (S : zSh h)  (K : ∀ h2 (x : Int32), zW (fun q k => q = 2 ∧ k = 1) (fun _ => False) (fun _ => False) h h2 → ((0 ≤ n.toInt ∧ n.toInt ≤ (ez_I h 2 1).toInt) ∧ x.toInt = 1 ∧ ez_I h2 2 1 = n ∨ ¬ (0 ≤ n.toInt ∧ n.toInt ≤ (ez_I h 2 1).toInt) ∧ x.toInt = 0 ∧ ez_I h2 2 1 = ez_I h 2 1) → Q (.inl (some (.int x))) h2) : pw E d 3 0 [some (.ref 1), some (.int n)] [] h Q := by
  have gn := z_rng n
  have F := zW_refl (fun q k => q = 2 ∧ k = 1) (fun _ => False) (fun _ => False) h
  apply ez_Wp_in
  show ez_gw _ _ _ _ _ _ (cz_3) _ _ _ _ _
  refine gw_skip _ ?_
  have r1 := z_rng (ez_I h 2 1)
  refine gw_ld rfl rfl ?_
  refine z_b1 (fun c2 => ?_) (fun c2 => ?_)
  · have c2 : n.toInt < 0 := c2
    refine gw_skip _ ?_
    refine z_C (m := 0) rfl rfl (fun x3 ex3 => ?_)
    refine z_rz (by omega) ?_
    exact K _ _ F (.inr ⟨by omega, by omega, rfl⟩)
  · have c2 : ¬ (n.toInt < 0) := c2
    refine gw_ld rfl rfl ?_
    refine gw_ld rfl rfl ?_
    refine z_gR (q := 2) (zT S (by decide) rfl) (zRf S (by decide) (by decide) rfl) (by decide) ?_
    refine z_gI2 (by decide) (zT S (by decide) rfl) (rfl) ?_
    refine z_b2 (fun c4 => ?_) (fun c4 => ?_)
    · have c4 : n.toInt ≤ ((ez_I h 2 1)).toInt := c4
      refine gw_skip _ ?_
      refine gw_ld rfl rfl ?_
      refine z_gR (q := 2) (zT S (by decide) rfl) (zRf S (by decide) (by decide) rfl) (by decide) ?_
      refine gw_ld rfl rfl ?_
      refine z_pI (zT S (by decide) rfl) (fun h5 e6 => ?_)
      have S7 := zSh_set S e6
      have F8 := zW_setF F e6 (by omega)
      have f9 : ez_I h5 2 1 = n := zI_eq e6
      refine z_C (m := 1) rfl rfl (fun x10 ex10 => ?_)
      refine z_rz (by omega) ?_
      have t11 := congrArg Int32.toInt (f9)
      exact K _ _ F8 (.inl ⟨by omega, by omega, f9⟩)
    · have c4 : ¬ (n.toInt ≤ ((ez_I h 2 1)).toInt) := c4
      refine z_C (m := 0) rfl rfl (fun x12 ex12 => ?_)
      refine z_rz (by omega) ?_
      exact K _ _ F (.inr ⟨by omega, by omega, rfl⟩)
set_option maxRecDepth 4000 in
set_option maxHeartbeats 2000000 in
theorem x_flipF {E : Nat → Nat × (Nat → Int32)} {d : Nat} {Q : ez_Q} {h : ez_H} {i : Int32} {b : Int32} (S : zSh h) (hz : 0 ≤ (ez_I h 2 1).toInt ∧ (ez_I h 2 1).toInt ≤ 6000) (K : ∀ h2 (x : Int32), zW (fun _ _ => False) (fun q => q = 3) (fun _ => False) h h2 → ((0 ≤ i.toInt ∧ i.toInt < (ez_I h 2 1).toInt ∧ 0 ≤ b.toInt ∧ b.toInt ≤ 7) ∧ x.toInt = 1 ∧ ez_I h2 3 i.toInt.toNat = flF b (ez_I h 3 i.toInt.toNat) ∧ (∀ k, k ≠ i.toInt.toNat → ez_I h2 3 k = ez_I h 3 k) ∨ ¬ (0 ≤ i.toInt ∧ i.toInt < (ez_I h 2 1).toInt ∧ 0 ≤ b.toInt ∧ b.toInt ≤ 7) ∧ x.toInt = 0 ∧ ez_I h2 3 = ez_I h 3) → Q (.inl (some (.int x))) h2) : pw E (d + 1) 4 0 [some (.ref 1), some (.int i), some (.int b)] [] h Q := by
  have gi := z_rng i
  have gb := z_rng b
  have F := zW_refl (fun _ _ => False) (fun q => q = 3) (fun _ => False) h
  apply ez_Wp_in
  show ez_gw _ _ _ _ _ _ (cz_4) _ _ _ _ _
  refine gw_skip _ ?_
  refine gw_ld rfl rfl ?_
  refine z_gR (q := 2) (zT S (by decide) rfl) (zRf S (by decide) (by decide) rfl) (by decide) ?_
  refine gw_ld rfl rfl ?_
  refine z_cl rfl rfl rfl rfl rfl rfl rfl rfl rfl rfl rfl (zT S (by decide) rfl) ?_
  refine c_has (p := 2) (i := i) S (by decide) (fun x1 k2 k3 k4 => ?_)
  have rx1 := z_rng x1
  refine z_b1 (fun c5 => ?_) (fun c5 => ?_)
  · have c5 : x1.toInt = 0 := c5
    refine gw_skip _ ?_
    refine z_C (m := 0) rfl rfl (fun x6 ex6 => ?_)
    refine z_rz (by omega) ?_
    exact K _ _ F (.inr ⟨by omega, by omega, rfl⟩)
  · have c5 : ¬ (x1.toInt = 0) := c5
    refine gw_ld rfl rfl ?_
    refine z_b1 (fun c7 => ?_) (fun c7 => ?_)
    · have c7 : b.toInt < 0 := c7
      refine gw_skip _ ?_
      refine z_C (m := 0) rfl rfl (fun x8 ex8 => ?_)
      refine z_rz (by omega) ?_
      exact K _ _ F (.inr ⟨by omega, by omega, rfl⟩)
    · have c7 : ¬ (b.toInt < 0) := c7
      refine gw_ld rfl rfl ?_
      refine z_C (m := 7) rfl rfl (fun x9 ex9 => ?_)
      refine z_b2 (fun c10 => ?_) (fun c10 => ?_)
      · have c10 : b.toInt ≤ x9.toInt := c10
        refine gw_skip _ ?_
        refine gw_ld rfl rfl ?_
        refine z_gR (q := 2) (zT S (by decide) rfl) (zRf S (by decide) (by decide) rfl) (by decide) ?_
        refine z_gR (q := 3) (zT S (by decide) rfl) (zRf S (by decide) (by decide) rfl) (by decide) ?_
        refine gw_ld rfl rfl ?_
        refine gw_op rfl ?_
        refine z_ia (n := 6100) (zT S (by decide) rfl) (zN S (by decide) rfl) (by omega) ?_
        generalize ex11 : ez_I h 3 i.toInt.toNat = x11
        have rx11 := z_rng x11
        refine z_C (m := 1) rfl rfl (fun x12 ex12 => ?_)
        refine gw_ld rfl rfl ?_
        refine z_2 rfl (fun x13 ex13 => ?_)
        have rx13 := z_rng x13
        refine z_2 rfl (fun x14 ex14 => ?_)
        have rx14 := z_rng x14
        refine z_is (n := 6100) (zT S (by decide) rfl) (zN S (by decide) rfl) (by omega) (fun h15 e16 => ?_)
        have S17 := zSh_set S e16
        have F18 := zW_setA F e16 (by omega)
        have A19 : (ez_I h15 3 i.toInt.toNat = flF b (ez_I h 3 i.toInt.toNat) ∧ ∀ k, k ≠ i.toInt.toNat → ez_I h15 3 k = ez_I h 3 k) := ⟨by rw [zI_eq e16, ex11]; exact flF_is (by omega) ex13 ex14, fun k hk => zI_ne e16 (by omega)⟩
        refine z_C (m := 1) rfl rfl (fun x20 ex20 => ?_)
        refine z_rz (by omega) ?_
        exact K _ _ F18 (.inl ⟨by omega, by omega, A19.1, A19.2⟩)
      · have c10 : ¬ (b.toInt ≤ x9.toInt) := c10
        refine z_C (m := 0) rfl rfl (fun x21 ex21 => ?_)
        refine z_rz (by omega) ?_
        exact K _ _ F (.inr ⟨by omega, by omega, rfl⟩)
set_option maxRecDepth 4000 in
set_option maxHeartbeats 2000000 in
theorem x_outF {E : Nat → Nat × (Nat → Int32)} {d : Nat} {Q : ez_Q} {h : ez_H} {i : Int32} (S : zSh h) (hz : 0 ≤ (ez_I h 4 1).toInt ∧ (ez_I h 4 1).toInt ≤ 6100) (K : ∀ x : Int32, ((0 ≤ i.toInt ∧ i.toInt < (ez_I h 4 1).toInt) → x = ez_I h 5 i.toInt.toNat) → (¬ (0 ≤ i.toInt ∧ i.toInt < (ez_I h 4 1).toInt) → x.toInt = -1) → Q (.inl (some (.int x))) h) : pw E (d + 1) 15 0 [some (.ref 1), some (.int i)] [] h Q := by
  have gi := z_rng i
  have F := zW_refl (fun _ _ => False) (fun _ => False) (fun _ => False) h
  apply ez_Wp_in
  show ez_gw _ _ _ _ _ _ (cz_15) _ _ _ _ _
  refine gw_skip _ ?_
  refine gw_ld rfl rfl ?_
  refine z_gR (q := 4) (zT S (by decide) rfl) (zRf S (by decide) (by decide) rfl) (by decide) ?_
  refine gw_ld rfl rfl ?_
  refine z_cl rfl rfl rfl rfl rfl rfl rfl rfl rfl rfl rfl (zT S (by decide) rfl) ?_
  refine c_has (p := 4) (i := i) S (by decide) (fun x1 k2 k3 k4 => ?_)
  have rx1 := z_rng x1
  refine z_b1 (fun c5 => ?_) (fun c5 => ?_)
  · have c5 : x1.toInt = 0 := c5
    refine gw_skip _ ?_
    refine z_C (m := -1) rfl rfl (fun x6 ex6 => ?_)
    refine z_ri ?_
    exact zW_Q F (K _ (fun q => by exfalso; omega) (fun _ => by omega))
  · have c5 : ¬ (x1.toInt = 0) := c5
    refine gw_ld rfl rfl ?_
    refine z_gR (q := 4) (zT S (by decide) rfl) (zRf S (by decide) (by decide) rfl) (by decide) ?_
    refine z_gR (q := 5) (zT S (by decide) rfl) (zRf S (by decide) (by decide) rfl) (by decide) ?_
    refine gw_ld rfl rfl ?_
    refine z_iaV (n := 6100) (zT S (by decide) rfl) (zN S (by decide) rfl) (by omega) (zW_f F (fun c => c) (fun c => c)) ?_
    generalize ex7 : ez_I h 5 i.toInt.toNat = x7
    have rx7 := z_rng x7
    refine z_go ?_
    refine gw_skip _ ?_
    refine z_ri ?_
    exact zW_Q F (K _ (fun _ => ex7.symm) (fun q => by exfalso; omega))
set_option maxRecDepth 4000 in
set_option maxHeartbeats 2000000 in
theorem x_aboutF {E : Nat → Nat × (Nat → Int32)} {d : Nat} {Q : ez_Q} {h : ez_H} {w : Int32} (S : zSh h)  (K : ∀ x : Int32, (w.toInt = 0 → x = ez_I h 2 1) → (w.toInt = 1 → x = ez_I h 4 1) → (w.toInt ≠ 0 → w.toInt ≠ 1 → x.toInt = -1) → Q (.inl (some (.int x))) h) : pw E d 19 0 [some (.ref 1), some (.int w)] [] h Q := by
  have gw := z_rng w
  have F := zW_refl (fun _ _ => False) (fun _ => False) (fun _ => False) h
  apply ez_Wp_in
  show ez_gw _ _ _ _ _ _ (cz_19) _ _ _ _ _
  refine gw_skip _ ?_
  refine gw_ld rfl rfl ?_
  refine gw_jp rfl rfl rfl rfl rfl rfl rfl ?_
  refine ⟨fun c1 => ?_, fun c1 => ?_⟩
  · have c1 : w.toInt = 0 := congrArg Int32.toInt c1
    refine gw_skip _ ?_
    refine gw_ld rfl rfl ?_
    refine z_gR (q := 2) (zT S (by decide) rfl) (zRf S (by decide) (by decide) rfl) (by decide) ?_
    have r2 := z_rng (ez_I h 2 1)
    refine z_gI2 (by decide) (zT S (by decide) rfl) (zW_f F (fun c => c) (fun c => c)) ?_
    refine z_ri ?_
    exact zW_Q F (K _ (fun q => by first | rfl | (exfalso; omega)) (fun q => by first | rfl | (exfalso; omega)) (fun q r => by first | omega | (exfalso; omega)))
  have c1 : ¬ w.toInt = 0 := fun q => c1 (z_inj q)
  refine ⟨fun c3 => ?_, fun c3 => ?_⟩
  · have c3 : w.toInt = 1 := congrArg Int32.toInt c3
    refine gw_skip _ ?_
    refine gw_ld rfl rfl ?_
    refine z_gR (q := 4) (zT S (by decide) rfl) (zRf S (by decide) (by decide) rfl) (by decide) ?_
    have r4 := z_rng (ez_I h 4 1)
    refine z_gI2 (by decide) (zT S (by decide) rfl) (zW_f F (fun c => c) (fun c => c)) ?_
    refine z_ri ?_
    exact zW_Q F (K _ (fun q => by first | rfl | (exfalso; omega)) (fun q => by first | rfl | (exfalso; omega)) (fun q r => by first | omega | (exfalso; omega)))
  have c3 : ¬ w.toInt = 1 := fun q => c3 (z_inj q)
  refine gw_skip _ ?_
  refine z_C (m := -1) rfl rfl (fun x5 ex5 => ?_)
  refine z_ri ?_
  exact zW_Q F (K _ (fun q => by first | rfl | (exfalso; omega)) (fun q => by first | rfl | (exfalso; omega)) (fun q r => by first | omega | (exfalso; omega)))
set_option maxRecDepth 4000 in
set_option maxHeartbeats 2000000 in
theorem x_partsF {E : Nat → Nat × (Nat → Int32)} {d : Nat} {Q : ez_Q} {h : ez_H}  (S : zSh h)  (K : ∀ x : Int32, x = ez_I h 53 1 → Q (.inl (some (.int x))) h) : pw E d 8 0 [some (.ref 1)] [] h Q := by
  have F := zW_refl (fun _ _ => False) (fun _ => False) (fun _ => False) h
  apply ez_Wp_in
  show ez_gw _ _ _ _ _ _ (cz_8) _ _ _ _ _
  refine gw_skip _ ?_
  refine gw_ld rfl rfl ?_
  refine z_gR (q := 52) (zT S (by decide) rfl) (zRf S (by decide) (by decide) rfl) (by decide) ?_
  refine z_gR (q := 53) (zT S (by decide) rfl) (zRf S (by decide) (by decide) rfl) (by decide) ?_
  have r1 := z_rng (ez_I h 53 1)
  refine z_gI2 (by decide) (zT S (by decide) rfl) (zW_f F (fun c => c) (fun c => c)) ?_
  refine z_ri ?_
  exact zW_Q F (K _ rfl)
set_option maxRecDepth 4000 in
set_option maxHeartbeats 2000000 in
theorem x_blocksF {E : Nat → Nat × (Nat → Int32)} {d : Nat} {Q : ez_Q} {h : ez_H}  (S : zSh h)  (K : ∀ x : Int32, x = ez_I h 55 2 → Q (.inl (some (.int x))) h) : pw E d 10 0 [some (.ref 1)] [] h Q := by
  have F := zW_refl (fun _ _ => False) (fun _ => False) (fun _ => False) h
  apply ez_Wp_in
  show ez_gw _ _ _ _ _ _ (cz_10) _ _ _ _ _
  refine gw_skip _ ?_
  refine gw_ld rfl rfl ?_
  refine z_gR (q := 52) (zT S (by decide) rfl) (zRf S (by decide) (by decide) rfl) (by decide) ?_
  refine z_gR (q := 55) (zT S (by decide) rfl) (zRf S (by decide) (by decide) rfl) (by decide) ?_
  have r1 := z_rng (ez_I h 55 2)
  refine z_gI2 (by decide) (zT S (by decide) rfl) (zW_f F (fun c => c) (fun c => c)) ?_
  refine z_ri ?_
  exact zW_Q F (K _ rfl)
set_option maxRecDepth 4000 in
set_option maxHeartbeats 2000000 in
theorem x_blockF {E : Nat → Nat × (Nat → Int32)} {d : Nat} {Q : ez_Q} {h : ez_H} {k : Int32} {w : Int32} (S : zSh h) (hb : 0 ≤ (ez_I h 55 2).toInt ∧ (ez_I h 55 2).toInt ≤ 10) (K : ∀ x : Int32, ((0 ≤ k.toInt ∧ k.toInt < (ez_I h 55 2).toInt ∧ 0 ≤ w.toInt ∧ w.toInt < 6) → x = ez_I h 56 (6 * k.toInt + w.toInt).toNat) → (¬ (0 ≤ k.toInt ∧ k.toInt < (ez_I h 55 2).toInt ∧ 0 ≤ w.toInt ∧ w.toInt < 6) → x.toInt = -1) → Q (.inl (some (.int x))) h) : pw E (d + 2) 11 0 [some (.ref 1), some (.int k), some (.int w)] [] h Q := by
  have gk := z_rng k
  have gw := z_rng w
  have F := zW_refl (fun _ _ => False) (fun _ => False) (fun _ => False) h
  apply ez_Wp_in
  show ez_gw _ _ _ _ _ _ (cz_11) _ _ _ _ _
  refine gw_skip _ ?_
  refine gw_ld rfl rfl ?_
  refine z_gR (q := 52) (zT S (by decide) rfl) (zRf S (by decide) (by decide) rfl) (by decide) ?_
  refine z_gR (q := 55) (zT S (by decide) rfl) (zRf S (by decide) (by decide) rfl) (by decide) ?_
  refine gw_ld rfl rfl ?_
  refine gw_ld rfl rfl ?_
  refine z_cl rfl rfl rfl rfl rfl rfl rfl rfl rfl rfl rfl (zT S (by decide) rfl) ?_
  refine c_fact (k := k) (w := w) S hb (fun x1 k2 k3 => ?_)
  have rx1 := z_rng x1
  refine z_ri ?_
  exact zW_Q F (K _ k2 k3)
set_option maxRecDepth 4000 in
set_option maxHeartbeats 2000000 in
theorem x_partF {E : Nat → Nat × (Nat → Int32)} {d : Nat} {Q : ez_Q} {h : ez_H} {k : Int32} {w : Int32} (S : zSh h) (hc : 0 ≤ (ez_I h 53 1).toInt ∧ (ez_I h 53 1).toInt ≤ 6000) (K : ∀ x : Int32, ((0 ≤ k.toInt ∧ k.toInt < (ez_I h 53 1).toInt) → w.toInt = 0 → x.toInt = (ez_I h 54 k.toInt.toNat).toInt % 512) → ((0 ≤ k.toInt ∧ k.toInt < (ez_I h 53 1).toInt) → w.toInt = 1 → x.toInt = (ez_I h 54 k.toInt.toNat).toInt / 512) → ((0 ≤ k.toInt ∧ k.toInt < (ez_I h 53 1).toInt) → w.toInt = 2 → x.toInt = k.toInt / 600) → ((¬ (0 ≤ k.toInt ∧ k.toInt < (ez_I h 53 1).toInt) ∨ (w.toInt ≠ 0 ∧ w.toInt ≠ 1 ∧ w.toInt ≠ 2)) → x.toInt = -1) → Q (.inl (some (.int x))) h) : pw E (d + 2) 9 0 [some (.ref 1), some (.int k), some (.int w), none] [] h Q := by
  have gk := z_rng k
  have gw := z_rng w
  have F := zW_refl (fun _ _ => False) (fun _ => False) (fun _ => False) h
  apply ez_Wp_in
  show ez_gw _ _ _ _ _ _ (cz_9) _ _ _ _ _
  refine gw_skip _ ?_
  refine gw_ld rfl rfl ?_
  refine z_gR (q := 52) (zT S (by decide) rfl) (zRf S (by decide) (by decide) rfl) (by decide) ?_
  refine z_gR (q := 53) (zT S (by decide) rfl) (zRf S (by decide) (by decide) rfl) (by decide) ?_
  refine gw_st rfl rfl rfl ?_
  show ez_gw _ _ _ _ _ _ _ _ [some (.ref 1), some (.int k), some (.int w), some (.ref 53)] _ _ _
  refine gw_ld rfl rfl ?_
  refine gw_ld rfl rfl ?_
  refine z_cl rfl rfl rfl rfl rfl rfl rfl rfl rfl rfl rfl (zT S (by decide) rfl) ?_
  refine c_phas S (k := k) (fun x1 k2 k3 k4 => ?_)
  have rx1 := z_rng x1
  refine z_b1 (fun c5 => ?_) (fun c5 => ?_)
  · have c5 : x1.toInt ≠ 0 := c5
    refine gw_skip _ ?_
    refine gw_ld rfl rfl ?_
    refine gw_jp rfl rfl rfl rfl rfl rfl rfl ?_
    refine ⟨fun c6 => ?_, fun c6 => ?_⟩
    · have c6 : w.toInt = 0 := congrArg Int32.toInt c6
      refine gw_skip _ ?_
      refine gw_ld rfl rfl ?_
      refine gw_ld rfl rfl ?_
      refine z_cl rfl rfl rfl rfl rfl rfl rfl rfl rfl rfl rfl (zT S (by decide) rfl) ?_
      refine c_pamount S (k := k) (by omega) (fun x7 k8 => ?_)
      have rx7 := z_rng x7
      refine z_ri ?_
      exact zW_Q F (K _ (fun q r => by first | assumption | (exfalso; omega)) (fun q r => by first | assumption | (exfalso; omega)) (fun q r => by first | omega | (exfalso; omega)) (fun q => by first | omega | (exfalso; omega)))
    have c6 : ¬ w.toInt = 0 := fun q => c6 (z_inj q)
    refine ⟨fun c9 => ?_, fun c9 => ?_⟩
    · have c9 : w.toInt = 1 := congrArg Int32.toInt c9
      refine gw_skip _ ?_
      refine gw_ld rfl rfl ?_
      refine gw_ld rfl rfl ?_
      refine z_cl rfl rfl rfl rfl rfl rfl rfl rfl rfl rfl rfl (zT S (by decide) rfl) ?_
      refine c_pdistance S (k := k) (by omega) (fun x10 k11 => ?_)
      have rx10 := z_rng x10
      refine z_ri ?_
      exact zW_Q F (K _ (fun q r => by first | assumption | (exfalso; omega)) (fun q r => by first | assumption | (exfalso; omega)) (fun q r => by first | omega | (exfalso; omega)) (fun q => by first | omega | (exfalso; omega)))
    have c9 : ¬ w.toInt = 1 := fun q => c9 (z_inj q)
    refine ⟨fun c12 => ?_, fun c12 => ?_⟩
    · have c12 : w.toInt = 2 := congrArg Int32.toInt c12
      refine gw_skip _ ?_
      refine gw_ld rfl rfl ?_
      refine z_C (m := 600) rfl rfl (fun x13 ex13 => ?_)
      refine z_dvP (c := 600) ex13 (by decide) (by omega) (fun x14 ex14 => ?_)
      refine z_ri ?_
      exact zW_Q F (K _ (fun q r => by first | assumption | (exfalso; omega)) (fun q r => by first | assumption | (exfalso; omega)) (fun q r => by first | omega | (exfalso; omega)) (fun q => by first | omega | (exfalso; omega)))
    have c12 : ¬ w.toInt = 2 := fun q => c12 (z_inj q)
    refine gw_skip _ ?_
    refine z_C (m := -1) rfl rfl (fun x15 ex15 => ?_)
    refine z_ri ?_
    exact zW_Q F (K _ (fun q r => by first | assumption | (exfalso; omega)) (fun q r => by first | assumption | (exfalso; omega)) (fun q r => by first | omega | (exfalso; omega)) (fun q => by first | omega | (exfalso; omega)))
  · have c5 : ¬ (x1.toInt ≠ 0) := c5
    refine z_C (m := -1) rfl rfl (fun x16 ex16 => ?_)
    refine z_ri ?_
    exact zW_Q F (K _ (fun q r => by first | assumption | (exfalso; omega)) (fun q r => by first | assumption | (exfalso; omega)) (fun q r => by first | omega | (exfalso; omega)) (fun q => by first | omega | (exfalso; omega)))
set_option maxRecDepth 4000 in
set_option maxHeartbeats 2000000 in
theorem m_cutF {E : Nat → Nat × (Nat → Int32)} {d : Nat} {Q : ez_Q} {h : ez_H} {n : Int32} (S : zSh h)  (K : ∀ h2 (x : Int32), zW (fun q k => q = 71 ∧ k = 0 ∨ q = 71 ∧ k = 6) (fun _ => False) (fun _ => False) h h2 → ((0 ≤ n.toInt ∧ n.toInt ≤ (ez_I h 71 6).toInt) ∧ x.toInt = 1 ∧ ez_I h2 71 6 = n ∨ ¬ (0 ≤ n.toInt ∧ n.toInt ≤ (ez_I h 71 6).toInt) ∧ x.toInt = 0 ∧ ez_I h2 71 6 = ez_I h 71 6) → Q (.inl (some (.int x))) h2) : pw E d 27 0 [some (.ref 71), some (.int n)] [] h Q := by
  have gn := z_rng n
  have F := zW_refl (fun q k => q = 71 ∧ k = 0 ∨ q = 71 ∧ k = 6) (fun _ => False) (fun _ => False) h
  apply ez_Wp_in
  show ez_gw _ _ _ _ _ _ (cz_27) _ _ _ _ _
  refine gw_skip _ ?_
  have r1 := z_rng (ez_I h 71 0)
  have r2 := z_rng (ez_I h 71 6)
  refine gw_ld rfl rfl ?_
  refine z_C (m := 0) rfl rfl (fun x3 ex3 => ?_)
  refine z_pI (zT S (by decide) rfl) (fun h4 e5 => ?_)
  have S6 := zSh_set S e5
  have F7 := zW_setF F e5 (by omega)
  have f8 : ez_I h4 71 0 = x3 := zI_eq e5
  have f9 : ez_I h4 71 6 = (ez_I h 71 6) := (zI_ne e5 (by decide)).trans (rfl)
  refine gw_ld rfl rfl ?_
  refine z_b1 (fun c10 => ?_) (fun c10 => ?_)
  · have c10 : n.toInt < 0 := c10
    refine gw_skip _ ?_
    refine z_C (m := 0) rfl rfl (fun x11 ex11 => ?_)
    refine z_rz (by omega) ?_
    have t12 := congrArg Int32.toInt (f8)
    have t13 := congrArg Int32.toInt (f9)
    exact K _ _ F7 (.inr ⟨by omega, by omega, f9⟩)
  · have c10 : ¬ (n.toInt < 0) := c10
    refine gw_ld rfl rfl ?_
    refine gw_ld rfl rfl ?_
    refine z_gI2 (by decide) (zT S6 (by decide) rfl) (f9) ?_
    refine z_b2 (fun c14 => ?_) (fun c14 => ?_)
    · have c14 : n.toInt ≤ ((ez_I h 71 6)).toInt := c14
      refine gw_skip _ ?_
      refine gw_ld rfl rfl ?_
      refine gw_ld rfl rfl ?_
      refine z_pI (zT S6 (by decide) rfl) (fun h15 e16 => ?_)
      have S17 := zSh_set S6 e16
      have F18 := zW_setF F7 e16 (by omega)
      have f19 : ez_I h15 71 0 = x3 := (zI_ne e16 (by decide)).trans (f8)
      have f20 : ez_I h15 71 6 = n := zI_eq e16
      refine z_C (m := 1) rfl rfl (fun x21 ex21 => ?_)
      refine z_rz (by omega) ?_
      have t22 := congrArg Int32.toInt (f19)
      have t23 := congrArg Int32.toInt (f20)
      exact K _ _ F18 (.inl ⟨by omega, by omega, f20⟩)
    · have c14 : ¬ (n.toInt ≤ ((ez_I h 71 6)).toInt) := c14
      refine z_C (m := 0) rfl rfl (fun x24 ex24 => ?_)
      refine z_rz (by omega) ?_
      have t25 := congrArg Int32.toInt (f8)
      have t26 := congrArg Int32.toInt (f9)
      exact K _ _ F7 (.inr ⟨by omega, by omega, f9⟩)
set_option maxRecDepth 4000 in
set_option maxHeartbeats 2000000 in
theorem m_flipF {E : Nat → Nat × (Nat → Int32)} {d : Nat} {Q : ez_Q} {h : ez_H} {i : Int32} {b : Int32} (S : zSh h) (hz : 0 ≤ (ez_I h 71 6).toInt ∧ (ez_I h 71 6).toInt ≤ 6000) (K : ∀ h2 (x : Int32), zW (fun q k => q = 71 ∧ k = 0) (fun q => q = 72) (fun _ => False) h h2 → ((0 ≤ i.toInt ∧ i.toInt < (ez_I h 71 6).toInt ∧ 0 ≤ b.toInt ∧ b.toInt ≤ 7) ∧ x.toInt = 1 ∧ ez_I h2 72 i.toInt.toNat = (flF b (ez_I h 72 i.toInt.toNat)).toInt8.toInt32 ∧ (∀ k, k ≠ i.toInt.toNat → ez_I h2 72 k = ez_I h 72 k) ∨ ¬ (0 ≤ i.toInt ∧ i.toInt < (ez_I h 71 6).toInt ∧ 0 ≤ b.toInt ∧ b.toInt ≤ 7) ∧ x.toInt = 0 ∧ ez_I h2 72 = ez_I h 72) → Q (.inl (some (.int x))) h2) : pw E d 28 0 [some (.ref 71), some (.int i), some (.int b)] [] h Q := by
  have gi := z_rng i
  have gb := z_rng b
  have F := zW_refl (fun q k => q = 71 ∧ k = 0) (fun q => q = 72) (fun _ => False) h
  apply ez_Wp_in
  show ez_gw _ _ _ _ _ _ (cz_28) _ _ _ _ _
  refine gw_skip _ ?_
  have r1 := z_rng (ez_I h 71 0)
  refine gw_ld rfl rfl ?_
  refine z_C (m := 0) rfl rfl (fun x2 ex2 => ?_)
  refine z_pI (zT S (by decide) rfl) (fun h3 e4 => ?_)
  have S5 := zSh_set S e4
  have F6 := zW_setF F e4 (by omega)
  have f7 : ez_I h3 71 0 = x2 := zI_eq e4
  have A8 : ez_I h3 72 = ez_I h 72 := by rw [zI_fn e4 72 (by decide)]
  refine gw_ld rfl rfl ?_
  refine z_b1 (fun c9 => ?_) (fun c9 => ?_)
  · have c9 : i.toInt < 0 := c9
    refine gw_skip _ ?_
    refine z_C (m := 0) rfl rfl (fun x10 ex10 => ?_)
    refine z_rz (by omega) ?_
    have t11 := congrArg Int32.toInt (f7)
    exact K _ _ F6 (.inr ⟨by omega, by omega, A8⟩)
  · have c9 : ¬ (i.toInt < 0) := c9
    refine gw_ld rfl rfl ?_
    refine gw_ld rfl rfl ?_
    have r12 := z_rng (ez_I h 71 6)
    refine z_gI2 (by decide) (zT S5 (by decide) rfl) (zW_f F6 (by decide) (by decide)) ?_
    refine z_b2 (fun c13 => ?_) (fun c13 => ?_)
    · have c13 : ((ez_I h 71 6)).toInt ≤ i.toInt := c13
      refine gw_skip _ ?_
      refine z_C (m := 0) rfl rfl (fun x14 ex14 => ?_)
      refine z_rz (by omega) ?_
      have t15 := congrArg Int32.toInt (f7)
      exact K _ _ F6 (.inr ⟨by omega, by omega, A8⟩)
    · have c13 : ¬ (((ez_I h 71 6)).toInt ≤ i.toInt) := c13
      refine gw_ld rfl rfl ?_
      refine z_b1 (fun c16 => ?_) (fun c16 => ?_)
      · have c16 : b.toInt < 0 := c16
        refine gw_skip _ ?_
        refine z_C (m := 0) rfl rfl (fun x17 ex17 => ?_)
        refine z_rz (by omega) ?_
        have t18 := congrArg Int32.toInt (f7)
        exact K _ _ F6 (.inr ⟨by omega, by omega, A8⟩)
      · have c16 : ¬ (b.toInt < 0) := c16
        refine gw_ld rfl rfl ?_
        refine z_C (m := 7) rfl rfl (fun x19 ex19 => ?_)
        refine z_b2 (fun c20 => ?_) (fun c20 => ?_)
        · have c20 : b.toInt ≤ x19.toInt := c20
          refine gw_skip _ ?_
          refine gw_ld rfl rfl ?_
          refine z_gR (q := 72) (zT S5 (by decide) rfl) (zRf S5 (by decide) (by decide) rfl) (by decide) ?_
          refine gw_ld rfl rfl ?_
          refine gw_ld rfl rfl ?_
          refine z_gR (q := 72) (zT S5 (by decide) rfl) (zRf S5 (by decide) (by decide) rfl) (by decide) ?_
          refine gw_ld rfl rfl ?_
          refine z_baV (n := 6000) (zT S5 (by decide) rfl) (zN S5 (by decide) rfl) (by omega) (congrFun A8 _) ?_
          generalize ex21 : ez_I h 72 i.toInt.toNat = x21
          have rx21 := z_rng x21
          refine z_C (m := 1) rfl rfl (fun x22 ex22 => ?_)
          refine gw_ld rfl rfl ?_
          refine z_2 rfl (fun x23 ex23 => ?_)
          have rx23 := z_rng x23
          refine z_2 rfl (fun x24 ex24 => ?_)
          have rx24 := z_rng x24
          refine z_1 rfl (fun x25 ex25 => ?_)
          have rx25 := z_rng x25
          refine z_bs (n := 6000) (zT S5 (by decide) rfl) (zN S5 (by decide) rfl) (by omega) (fun h26 e27 => ?_)
          have S29 := zSh_set S5 e27
          have F30 := zW_setA F6 e27 (by omega)
          have f31 : ez_I h26 71 0 = x2 := (zI_ne e27 (by omega)).trans (f7)
          have A32 : (ez_I h26 72 i.toInt.toNat = (flF b (ez_I h 72 i.toInt.toNat)).toInt8.toInt32 ∧ ∀ k, k ≠ i.toInt.toNat → ez_I h26 72 k = ez_I h 72 k) := ⟨by rw [zI_eq e27, ex25, n_b2, ex21, flF_is (by omega) ex23 ex24], fun k hk => (zI_ne e27 (by omega)).trans (congrFun A8 k)⟩
          refine z_C (m := 1) rfl rfl (fun x33 ex33 => ?_)
          refine z_rz (by omega) ?_
          have t34 := congrArg Int32.toInt (f31)
          exact K _ _ F30 (.inl ⟨by omega, by omega, A32.1, A32.2⟩)
        · have c20 : ¬ (b.toInt ≤ x19.toInt) := c20
          refine z_C (m := 0) rfl rfl (fun x35 ex35 => ?_)
          refine z_rz (by omega) ?_
          have t36 := congrArg Int32.toInt (f7)
          exact K _ _ F6 (.inr ⟨by omega, by omega, A8⟩)
set_option maxRecDepth 4000 in
set_option maxHeartbeats 2000000 in
theorem m_aboutF {E : Nat → Nat × (Nat → Int32)} {d : Nat} {Q : ez_Q} {h : ez_H} {w : Int32} (S : zSh h)  (K : ∀ h2 (x : Int32), zW (fun q k => q = 71 ∧ k = 0) (fun _ => False) (fun _ => False) h h2 → (w.toInt = 0 → x = ez_I h 71 6) → (w.toInt = 1 → x = ez_I h 71 7) → (w.toInt ≠ 0 → w.toInt ≠ 1 → x.toInt = -1) → Q (.inl (some (.int x))) h2) : pw E d 66 0 [some (.ref 71), some (.int w)] [] h Q := by
  have gw := z_rng w
  have F := zW_refl (fun q k => q = 71 ∧ k = 0) (fun _ => False) (fun _ => False) h
  apply ez_Wp_in
  show ez_gw _ _ _ _ _ _ (cz_66) _ _ _ _ _
  refine gw_skip _ ?_
  have r1 := z_rng (ez_I h 71 0)
  refine gw_ld rfl rfl ?_
  refine z_C (m := 0) rfl rfl (fun x2 ex2 => ?_)
  refine z_pI (zT S (by decide) rfl) (fun h3 e4 => ?_)
  have S5 := zSh_set S e4
  have F6 := zW_setF F e4 (by omega)
  have f7 : ez_I h3 71 0 = x2 := zI_eq e4
  refine gw_ld rfl rfl ?_
  refine z_b1 (fun c8 => ?_) (fun c8 => ?_)
  · have c8 : w.toInt ≠ 0 := c8
    refine gw_skip _ ?_
    refine gw_ld rfl rfl ?_
    refine z_C (m := 1) rfl rfl (fun x9 ex9 => ?_)
    refine z_b2 (fun c10 => ?_) (fun c10 => ?_)
    · have c10 : w.toInt ≠ x9.toInt := c10
      refine gw_skip _ ?_
      refine z_C (m := -1) rfl rfl (fun x11 ex11 => ?_)
      refine z_ri ?_
      have t12 := congrArg Int32.toInt (f7)
      exact K _ _ F6 (fun q => by first | rfl | (exfalso; omega)) (fun q => by first | rfl | (exfalso; omega)) (fun q r => by first | omega | (exfalso; omega))
    · have c10 : ¬ (w.toInt ≠ x9.toInt) := c10
      refine gw_ld rfl rfl ?_
      have r13 := z_rng (ez_I h 71 7)
      refine z_gI2 (by decide) (zT S5 (by decide) rfl) (zW_f F6 (fun c => c) (by decide)) ?_
      refine z_go ?_
      refine gw_skip _ ?_
      refine z_ri ?_
      have t14 := congrArg Int32.toInt (f7)
      exact K _ _ F6 (fun q => by first | rfl | (exfalso; omega)) (fun q => by first | rfl | (exfalso; omega)) (fun q r => by first | omega | (exfalso; omega))
  · have c8 : ¬ (w.toInt ≠ 0) := c8
    refine gw_ld rfl rfl ?_
    have r15 := z_rng (ez_I h 71 6)
    refine z_gI2 (by decide) (zT S5 (by decide) rfl) (zW_f F6 (fun c => c) (by decide)) ?_
    refine z_go ?_
    refine gw_skip _ ?_
    refine z_ri ?_
    have t16 := congrArg Int32.toInt (f7)
    exact K _ _ F6 (fun q => by first | rfl | (exfalso; omega)) (fun q => by first | rfl | (exfalso; omega)) (fun q r => by first | omega | (exfalso; omega))
set_option maxRecDepth 4000 in
set_option maxHeartbeats 2000000 in
theorem m_outF {E : Nat → Nat × (Nat → Int32)} {d : Nat} {Q : ez_Q} {h : ez_H} {i : Int32} (S : zSh h) (hz : 0 ≤ (ez_I h 71 7).toInt ∧ (ez_I h 71 7).toInt ≤ 6200) (K : ∀ h2 (x : Int32), zW (fun q k => q = 71 ∧ k = 0) (fun _ => False) (fun _ => False) h h2 → ((0 ≤ i.toInt ∧ i.toInt < (ez_I h 71 7).toInt) → x.toInt = (ez_I h 73 i.toInt.toNat).toInt % 256) → (¬ (0 ≤ i.toInt ∧ i.toInt < (ez_I h 71 7).toInt) → x.toInt = -1) → Q (.inl (some (.int x))) h2) : pw E d 62 0 [some (.ref 71), some (.int i)] [] h Q := by
  have gi := z_rng i
  have F := zW_refl (fun q k => q = 71 ∧ k = 0) (fun _ => False) (fun _ => False) h
  apply ez_Wp_in
  show ez_gw _ _ _ _ _ _ (cz_62) _ _ _ _ _
  refine gw_skip _ ?_
  have r1 := z_rng (ez_I h 71 0)
  refine gw_ld rfl rfl ?_
  refine z_C (m := 0) rfl rfl (fun x2 ex2 => ?_)
  refine z_pI (zT S (by decide) rfl) (fun h3 e4 => ?_)
  have S5 := zSh_set S e4
  have F6 := zW_setF F e4 (by omega)
  have f7 : ez_I h3 71 0 = x2 := zI_eq e4
  refine gw_ld rfl rfl ?_
  refine z_b1 (fun c8 => ?_) (fun c8 => ?_)
  · have c8 : i.toInt < 0 := c8
    refine gw_skip _ ?_
    refine z_C (m := -1) rfl rfl (fun x9 ex9 => ?_)
    refine z_ri ?_
    have t10 := congrArg Int32.toInt (f7)
    exact K _ _ F6 (fun q => by exfalso; omega) (fun _ => by omega)
  · have c8 : ¬ (i.toInt < 0) := c8
    refine gw_ld rfl rfl ?_
    refine gw_ld rfl rfl ?_
    have r11 := z_rng (ez_I h 71 7)
    refine z_gI2 (by decide) (zT S5 (by decide) rfl) (zW_f F6 (fun c => c) (by decide)) ?_
    refine z_b2 (fun c12 => ?_) (fun c12 => ?_)
    · have c12 : ((ez_I h 71 7)).toInt ≤ i.toInt := c12
      refine gw_skip _ ?_
      refine z_C (m := -1) rfl rfl (fun x13 ex13 => ?_)
      refine z_ri ?_
      have t14 := congrArg Int32.toInt (f7)
      exact K _ _ F6 (fun q => by exfalso; omega) (fun _ => by omega)
    · have c12 : ¬ (((ez_I h 71 7)).toInt ≤ i.toInt) := c12
      refine gw_ld rfl rfl ?_
      refine z_gR (q := 73) (zT S5 (by decide) rfl) (zRf S5 (by decide) (by decide) rfl) (by decide) ?_
      refine gw_ld rfl rfl ?_
      refine z_baV (n := 6200) (zT S5 (by decide) rfl) (zN S5 (by decide) rfl) (by omega) (zW_f F6 (fun c => c) (by omega)) ?_
      generalize ex15 : ez_I h 73 i.toInt.toNat = x15
      have rx15 := z_rng x15
      refine z_C (m := 255) rfl rfl (fun x16 ex16 => ?_)
      refine z_and (fun x17 ex17 ux17 wx17 => ?_)
      have rx17 := z_rng x17
      replace ux17 := ux17 (by omega)
      clear wx17
      have vx17 := n_mask (k := 8) (by decide) (by omega) ex17
      rw [show (2 : Int) ^ 8 = 256 from rfl] at vx17
      refine z_go ?_
      refine gw_skip _ ?_
      refine z_ri ?_
      have t18 := congrArg Int32.toInt (f7)
      exact K _ _ F6 (fun _ => by rw [ex15]; omega) (fun q => by exfalso; omega)
set_option maxRecDepth 4000 in
set_option maxHeartbeats 2000000 in
theorem m_partsF {E : Nat → Nat × (Nat → Int32)} {d : Nat} {Q : ez_Q} {h : ez_H}  (S : zSh h)  (K : ∀ h2 (x : Int32), zW (fun q k => q = 71 ∧ k = 0) (fun _ => False) (fun _ => False) h h2 → x = ez_I h 71 14 → Q (.inl (some (.int x))) h2) : pw E d 46 0 [some (.ref 71)] [] h Q := by
  have F := zW_refl (fun q k => q = 71 ∧ k = 0) (fun _ => False) (fun _ => False) h
  apply ez_Wp_in
  show ez_gw _ _ _ _ _ _ (cz_46) _ _ _ _ _
  refine gw_skip _ ?_
  have r1 := z_rng (ez_I h 71 0)
  refine gw_ld rfl rfl ?_
  refine z_C (m := 0) rfl rfl (fun x2 ex2 => ?_)
  refine z_pI (zT S (by decide) rfl) (fun h3 e4 => ?_)
  have S5 := zSh_set S e4
  have F6 := zW_setF F e4 (by omega)
  have f7 : ez_I h3 71 0 = x2 := zI_eq e4
  refine gw_ld rfl rfl ?_
  have r8 := z_rng (ez_I h 71 14)
  refine z_gI2 (by decide) (zT S5 (by decide) rfl) (zW_f F6 (fun c => c) (by decide)) ?_
  refine z_ri ?_
  have t9 := congrArg Int32.toInt (f7)
  exact K _ _ F6 rfl
set_option maxRecDepth 4000 in
set_option maxHeartbeats 2000000 in
theorem m_blocksF {E : Nat → Nat × (Nat → Int32)} {d : Nat} {Q : ez_Q} {h : ez_H}  (S : zSh h)  (K : ∀ h2 (x : Int32), zW (fun q k => q = 71 ∧ k = 0) (fun _ => False) (fun _ => False) h h2 → x = ez_I h 71 15 → Q (.inl (some (.int x))) h2) : pw E d 48 0 [some (.ref 71)] [] h Q := by
  have F := zW_refl (fun q k => q = 71 ∧ k = 0) (fun _ => False) (fun _ => False) h
  apply ez_Wp_in
  show ez_gw _ _ _ _ _ _ (cz_48) _ _ _ _ _
  refine gw_skip _ ?_
  have r1 := z_rng (ez_I h 71 0)
  refine gw_ld rfl rfl ?_
  refine z_C (m := 0) rfl rfl (fun x2 ex2 => ?_)
  refine z_pI (zT S (by decide) rfl) (fun h3 e4 => ?_)
  have S5 := zSh_set S e4
  have F6 := zW_setF F e4 (by omega)
  have f7 : ez_I h3 71 0 = x2 := zI_eq e4
  refine gw_ld rfl rfl ?_
  have r8 := z_rng (ez_I h 71 15)
  refine z_gI2 (by decide) (zT S5 (by decide) rfl) (zW_f F6 (fun c => c) (by decide)) ?_
  refine z_ri ?_
  have t9 := congrArg Int32.toInt (f7)
  exact K _ _ F6 rfl
end
section
/-! bytes of an int, the highest first -/
theorem n_ushrU {x y z : Int32} {n : Nat} (hy : y.toInt = n) (hn : n < 32) (hz : z = (x.toUInt32 >>> (y.toUInt32 &&& Int32.toUInt32 31)).toInt32) : ev_u z = ev_u x / 2 ^ n := by
  have ey : y = Int32.ofNat n := z_inj (by rw [hy]; exact (z_nI (n := n) (by omega)).symm)
  have e2 : ∀ m : Nat, m < 32 → (((Int32.ofNat m).toUInt32 &&& Int32.toUInt32 31).toBitVec % 32#32).toNat = m := by decide
  have e3 : z.toBitVec = x.toBitVec >>> n := by
    rw [hz, ey]
    show x.toBitVec >>> (((Int32.ofNat n).toUInt32 &&& Int32.toUInt32 31).toBitVec % 32#32).toNat = _
    rw [e2 n hn]
  show z.toBitVec.toNat = _
  rw [e3, BitVec.toNat_ushiftRight, Nat.shiftRight_eq_div_pow]
  rfl
noncomputable def byN (a : Int32) (j : Nat) : Int := a.toInt / 2 ^ (24 - 8 * j) % 256
theorem byN_u {x y z m w : Int32} {j : Nat} (hj : j < 4) (hy : y.toInt = ((24 - 8 * j : Nat) : Int)) (gz : z = (x.toUInt32 >>> (y.toUInt32 &&& Int32.toUInt32 31)).toInt32) (hm : m.toInt = 255) (gw : w = z &&& m) : w.toInt = byN x j := by
  have a := n_ushrU hy (by omega) gz
  have b := n_mask (k := 8) (by decide) (by rw [hm]; rfl) gw
  have c : w.toInt = ((ev_u x / 2 ^ (24 - 8 * j) % 256 : Nat) : Int) := by
    rw [b, ← a]
    exact n_mod256 z
  rw [c]
  unfold byN
  have hx : x.toInt = (ev_u x : Int) ∨ x.toInt = (ev_u x : Int) - 4294967296 := by
    by_cases q : 0 ≤ x.toInt
    · exact .inl (z_u q).symm
    · have := z_u' (x := x) (by omega); omega
  rcases (by omega : j = 0 ∨ j = 1 ∨ j = 2 ∨ j = 3) with q | q | q | q <;> subst q
  · show _ = x.toInt / 2 ^ 24 % 256
    show ((ev_u x / 2 ^ 24 % 256 : Nat) : Int) = _
    omega
  · show ((ev_u x / 2 ^ 16 % 256 : Nat) : Int) = x.toInt / 2 ^ 16 % 256
    omega
  · show ((ev_u x / 2 ^ 8 % 256 : Nat) : Int) = x.toInt / 2 ^ 8 % 256
    omega
  · show ((ev_u x / 2 ^ 0 % 256 : Nat) : Int) = x.toInt / 2 ^ 0 % 256
    omega
theorem byN_s {x y z : Int32} {j : Nat} (hj : j < 4) (hy : y.toInt = ((24 - 8 * j : Nat) : Int)) (gz : z = x >>> (y &&& 31)) : z.toInt % 256 = byN x j := by
  rw [n_shr hy (by omega) gz]
  rfl
def rdC (f : Nat → Int32) (b : Nat) (a : Int32) (n : Nat) : Prop := ∀ j, j < n → (f (b + j)).toInt = byN a j
def rdM (f : Nat → Int32) (b : Nat) (a : Int32) (n : Nat) : Prop := ∀ j, j < n → (f (b + j)).toInt % 256 = byN a j
theorem rdC_s {h h2 : ez_H} {b n m x : Nat} {a y : Int32} (A : rdC (ez_I h 6) b a n) (e : h2 = ez_setI h 6 x y) (hx : x = b + n) (hy : y.toInt = byN a n) (hm : m = n + 1) : rdC (ez_I h2 6) b a m := fun j hj => by
  subst hm
  by_cases q : j = n
  · subst q; rw [← hx, zI_eq e]; exact hy
  · rw [zI_ne e (by omega)]; exact A j (by omega)
theorem rdM_s {h h2 : ez_H} {b n m x : Nat} {a y : Int32} (A : rdM (ez_I h 74) b a n) (e : h2 = ez_setI h 74 x y) (hx : x = b + n) (hy : y.toInt % 256 = byN a n) (hm : m = n + 1) : rdM (ez_I h2 74) b a m := fun j hj => by
  subst hm
  by_cases q : j = n
  · subst q; rw [← hx, zI_eq e]; exact hy
  · rw [zI_ne e (by omega)]; exact A j (by omega)
theorem rdM_o {h h2 : ez_H} {b n x : Nat} {a y : Int32} (A : rdM (ez_I h 74) b a n) (e : h2 = ez_setI h 74 x y) (hx : x < b ∨ b + n ≤ x) : rdM (ez_I h2 74) b a n := fun j hj => by
  rw [zI_ne e (by omega)]; exact A j hj
/-! PRINTED by wip/pack: feed and take of both -/
set_option maxRecDepth 4000 in
set_option maxHeartbeats 2000000 in
theorem x_putReadyF_L0 {E : Nat → Nat × (Nat → Int32)} {d : Nat} {Q : ez_Q} {h : ez_H} {f : Int32} {w : Int32} (S : zSh h) (hf : 0 ≤ f.toInt ∧ f.toInt ≤ 16) (K : ∀ h2, zW (fun _ _ => False) (fun q => q = 6) (fun _ => False) h h2 → rdC (ez_I h2 6) f.toInt.toNat w 4 → (∀ k, (k < f.toInt.toNat ∨ f.toInt.toNat + 4 ≤ k) → ez_I h2 6 k = ez_I h 6 k) → Q (.inl none) h2) : ∀ N : Nat, (∀ (h2 : ez_H) (i : Int32) , zW (fun _ _ => False) (fun q => q = 6) (fun _ => False) h h2 → (0 ≤ i.toInt ∧ i.toInt ≤ 4) → rdC (ez_I h2 6) f.toInt.toNat w i.toInt.toNat → (∀ k, (k < f.toInt.toNat ∨ f.toInt.toNat + 4 ≤ k) → ez_I h2 6 k = ez_I h 6 k) → (10 - i.toInt) < (N : Int) → pw E d 20 2 [some (.ref 1), some (.int f), some (.int w), some (.int i)] [] h2 Q) := by
  intro N
  induction N with
  | zero => exact fun h2 i  F hinv A_r A_o hm => absurd hm (by have w_i := z_rng i; have gf := z_rng f; have gw := z_rng w; omega)
  | succ N ih =>
    refine fun h2 i  F hinv A_r A_o hm => ?_
    · skip
      have w_i := z_rng i
      have gf := z_rng f
      have gw := z_rng w
      have S2 := zW_sh F S
      apply ez_Wp_in
      show ez_gw _ _ _ _ _ _ (cz_20) _ _ _ _ _
      refine gw_skip _ ?_
      refine gw_ld rfl rfl ?_
      refine z_C (m := 4) rfl rfl (fun x1 ex1 => ?_)
      refine z_b2 (fun c2 => ?_) (fun c2 => ?_)
      · have c2 : x1.toInt ≤ i.toInt := c2
        refine gw_skip _ ?_
        refine z_rv ?_
        have b1 := A_r
        rw [show i.toInt.toNat = 4 by omega] at b1
        exact K _ F b1 A_o
      · have c2 : ¬ (x1.toInt ≤ i.toInt) := c2
        refine gw_ld rfl rfl ?_
        refine gw_ld rfl rfl ?_
        refine z_add (by omega) (fun x3 ex3 => ?_)
        refine z_C (m := 20) rfl rfl (fun x4 ex4 => ?_)
        refine z_b2 (fun c5 => ?_) (fun c5 => ?_)
        · have c5 : x4.toInt ≤ x3.toInt := c5
          refine gw_skip _ ?_
          refine z_rv ?_
          have b1 := A_r
          rw [show i.toInt.toNat = 4 by omega] at b1
          exact K _ F b1 A_o
        · have c5 : ¬ (x4.toInt ≤ x3.toInt) := c5
          refine gw_ld rfl rfl ?_
          refine z_gR (q := 6) (zT S2 (by decide) rfl) (zRf S2 (by decide) (by decide) rfl) (by decide) ?_
          refine gw_ld rfl rfl ?_
          refine gw_ld rfl rfl ?_
          refine z_add (by omega) (fun x6 ex6 => ?_)
          refine gw_ld rfl rfl ?_
          refine z_C (m := 24) rfl rfl (fun x7 ex7 => ?_)
          refine z_C (m := 8) rfl rfl (fun x8 ex8 => ?_)
          refine gw_ld rfl rfl ?_
          refine z_mulL (c := 8) ex8 (by omega) (fun x9 ex9 => ?_)
          refine z_sub (by omega) (fun x10 ex10 => ?_)
          refine z_2 rfl (fun x11 ex11 => ?_)
          have rx11 := z_rng x11
          have eU := ex11
          refine z_C (m := 255) rfl rfl (fun x12 ex12 => ?_)
          refine z_and (fun x13 ex13 ux13 wx13 => ?_)
          have rx13 := z_rng x13
          replace ux13 := ux13 (by omega)
          clear wx13
          have vx13 := byN_u (j := i.toInt.toNat) (by omega) (by omega) eU (by omega) ex13
          refine z_is (n := 20) (zT S2 (by decide) rfl) (zN S2 (by decide) rfl) (by omega) (fun h14 e15 => ?_)
          have S16 := zSh_set S2 e15
          have F17 := zW_setA F e15 (by omega)
          have A18 : rdC (ez_I h14 6) f.toInt.toNat w (i.toInt.toNat + 1) := rdC_s A_r e15 (by omega) vx13 rfl
          have A19 : (∀ k, (k < f.toInt.toNat ∨ f.toInt.toNat + 4 ≤ k) → ez_I h14 6 k = ez_I h 6 k) := fun k hk => (zI_ne e15 (by omega)).trans (A_o k hk)
          refine z_inc rfl (by rw [show (1 : Int32).toInt = 1 from rfl]; omega) (fun x20 ex20 => ?_)
          rw [show (1 : Int32).toInt = 1 from rfl] at ex20
          show ez_gw _ _ _ _ _ _ _ _ [some (.ref 1), some (.int f), some (.int w), some (.int x20)] _ _ _
          refine z_go ?_
          exact ih h14 x20 F17 (by omega) ((by rw [show x20.toInt.toNat = i.toInt.toNat + 1 by omega]; exact A18)) (A19) (by omega)
set_option maxRecDepth 4000 in
set_option maxHeartbeats 2000000 in
theorem x_putReadyF {E : Nat → Nat × (Nat → Int32)} {d : Nat} {Q : ez_Q} {h : ez_H} {f : Int32} {w : Int32} (S : zSh h) (hf : 0 ≤ f.toInt ∧ f.toInt ≤ 16) (K : ∀ h2, zW (fun _ _ => False) (fun q => q = 6) (fun _ => False) h h2 → rdC (ez_I h2 6) f.toInt.toNat w 4 → (∀ k, (k < f.toInt.toNat ∨ f.toInt.toNat + 4 ≤ k) → ez_I h2 6 k = ez_I h 6 k) → Q (.inl none) h2) : pw E d 20 0 [some (.ref 1), some (.int f), some (.int w), none] [] h Q := by
  have gf := z_rng f
  have gw := z_rng w
  have F := zW_refl (fun _ _ => False) (fun q => q = 6) (fun _ => False) h
  apply ez_Wp_in
  show ez_gw _ _ _ _ _ _ (cz_20) _ _ _ _ _
  refine gw_skip _ ?_
  refine z_C (m := 0) rfl rfl (fun x1 ex1 => ?_)
  refine gw_st rfl rfl rfl ?_
  show ez_gw _ _ _ _ _ _ _ _ [some (.ref 1), some (.int f), some (.int w), some (.int x1)] _ _ _
  exact ez_Wp_at ((x_putReadyF_L0 (f := f) (w := w) S hf K (((10 - x1.toInt)).toNat + 1)) h x1 F (by omega) ((by rw [show x1.toInt.toNat = 0 by omega]; exact fun j hj => by omega)) (fun k _ => rfl) (by omega)) rfl
set_option maxRecDepth 4000 in
set_option maxHeartbeats 2000000 in
theorem x_feedF {E : Nat → Nat × (Nat → Int32)} {d : Nat} {Q : ez_Q} {h : ez_H} {a0 : Int32} {a1 : Int32} {a2 : Int32} {a3 : Int32} {a4 : Int32} (S : zSh h)  (K : ∀ h2, zW (fun _ _ => False) (fun q => q = 6) (fun _ => False) h h2 → rdC (ez_I h2 6) 0 a0 4 → rdC (ez_I h2 6) 4 a1 4 → rdC (ez_I h2 6) 8 a2 4 → rdC (ez_I h2 6) 12 a3 4 → rdC (ez_I h2 6) 16 a4 4 → Q (.inl none) h2) : pw E (d + 1) 1 0 [some (.ref 1), some (.int a0), some (.int a1), some (.int a2), some (.int a3), some (.int a4)] [] h Q := by
  have ga0 := z_rng a0
  have ga1 := z_rng a1
  have ga2 := z_rng a2
  have ga3 := z_rng a3
  have ga4 := z_rng a4
  have F := zW_refl (fun _ _ => False) (fun q => q = 6) (fun _ => False) h
  apply ez_Wp_in
  show ez_gw _ _ _ _ _ _ (cz_1) _ _ _ _ _
  refine gw_skip _ ?_
  refine gw_ld rfl rfl ?_
  refine z_C (m := 0) rfl rfl (fun x1 ex1 => ?_)
  refine gw_ld rfl rfl ?_
  refine z_cl rfl rfl rfl rfl rfl rfl rfl rfl rfl rfl rfl (zT S (by decide) rfl) ?_
  refine x_putReadyF (f := x1) (w := a0) S (by omega) (fun h2 F3 k4 k5 => ?_)
  rw [show x1.toInt.toNat = 0 by omega] at k4 k5
  have S6 := zW_sh F3 S
  have F7 := zW_tr F (zW_mono F3 (fun q k hk => by first | omega | exact False.elim hk) (fun q hk => by first | omega | exact False.elim hk) (fun q hk => by first | omega | exact False.elim hk))
  refine gw_ld rfl rfl ?_
  refine z_C (m := 4) rfl rfl (fun x8 ex8 => ?_)
  refine gw_ld rfl rfl ?_
  refine z_cl rfl rfl rfl rfl rfl rfl rfl rfl rfl rfl rfl (zT S6 (by decide) rfl) ?_
  refine x_putReadyF (f := x8) (w := a1) S6 (by omega) (fun h9 F10 k11 k12 => ?_)
  rw [show x8.toInt.toNat = 4 by omega] at k11 k12
  have S13 := zW_sh F10 S6
  have F14 := zW_tr F7 (zW_mono F10 (fun q k hk => by first | omega | exact False.elim hk) (fun q hk => by first | omega | exact False.elim hk) (fun q hk => by first | omega | exact False.elim hk))
  have A15 : rdC (ez_I h9 6) 0 a0 4 := fun j hj => by rw [k12 _ (by omega)]; exact k4 j hj
  refine gw_ld rfl rfl ?_
  refine z_C (m := 8) rfl rfl (fun x16 ex16 => ?_)
  refine gw_ld rfl rfl ?_
  refine z_cl rfl rfl rfl rfl rfl rfl rfl rfl rfl rfl rfl (zT S13 (by decide) rfl) ?_
  refine x_putReadyF (f := x16) (w := a2) S13 (by omega) (fun h17 F18 k19 k20 => ?_)
  rw [show x16.toInt.toNat = 8 by omega] at k19 k20
  have S21 := zW_sh F18 S13
  have F22 := zW_tr F14 (zW_mono F18 (fun q k hk => by first | omega | exact False.elim hk) (fun q hk => by first | omega | exact False.elim hk) (fun q hk => by first | omega | exact False.elim hk))
  have A23 : rdC (ez_I h17 6) 0 a0 4 := fun j hj => by rw [k20 _ (by omega)]; exact A15 j hj
  have A24 : rdC (ez_I h17 6) 4 a1 4 := fun j hj => by rw [k20 _ (by omega)]; exact k11 j hj
  refine gw_ld rfl rfl ?_
  refine z_C (m := 12) rfl rfl (fun x25 ex25 => ?_)
  refine gw_ld rfl rfl ?_
  refine z_cl rfl rfl rfl rfl rfl rfl rfl rfl rfl rfl rfl (zT S21 (by decide) rfl) ?_
  refine x_putReadyF (f := x25) (w := a3) S21 (by omega) (fun h26 F27 k28 k29 => ?_)
  rw [show x25.toInt.toNat = 12 by omega] at k28 k29
  have S30 := zW_sh F27 S21
  have F31 := zW_tr F22 (zW_mono F27 (fun q k hk => by first | omega | exact False.elim hk) (fun q hk => by first | omega | exact False.elim hk) (fun q hk => by first | omega | exact False.elim hk))
  have A32 : rdC (ez_I h26 6) 0 a0 4 := fun j hj => by rw [k29 _ (by omega)]; exact A23 j hj
  have A33 : rdC (ez_I h26 6) 4 a1 4 := fun j hj => by rw [k29 _ (by omega)]; exact A24 j hj
  have A34 : rdC (ez_I h26 6) 8 a2 4 := fun j hj => by rw [k29 _ (by omega)]; exact k19 j hj
  refine gw_ld rfl rfl ?_
  refine z_C (m := 16) rfl rfl (fun x35 ex35 => ?_)
  refine gw_ld rfl rfl ?_
  refine z_cl rfl rfl rfl rfl rfl rfl rfl rfl rfl rfl rfl (zT S30 (by decide) rfl) ?_
  refine x_putReadyF (f := x35) (w := a4) S30 (by omega) (fun h36 F37 k38 k39 => ?_)
  rw [show x35.toInt.toNat = 16 by omega] at k38 k39
  have S40 := zW_sh F37 S30
  have F41 := zW_tr F31 (zW_mono F37 (fun q k hk => by first | omega | exact False.elim hk) (fun q hk => by first | omega | exact False.elim hk) (fun q hk => by first | omega | exact False.elim hk))
  have A42 : rdC (ez_I h36 6) 0 a0 4 := fun j hj => by rw [k39 _ (by omega)]; exact A32 j hj
  have A43 : rdC (ez_I h36 6) 4 a1 4 := fun j hj => by rw [k39 _ (by omega)]; exact A33 j hj
  have A44 : rdC (ez_I h36 6) 8 a2 4 := fun j hj => by rw [k39 _ (by omega)]; exact A34 j hj
  have A45 : rdC (ez_I h36 6) 12 a3 4 := fun j hj => by rw [k39 _ (by omega)]; exact k28 j hj
  refine z_rv ?_
  exact K _ F41 A42 A43 A44 A45 k38
set_option maxRecDepth 4000 in
set_option maxHeartbeats 2000000 in
theorem m_feedF_L0 {E : Nat → Nat × (Nat → Int32)} {d : Nat} {Q : ez_Q} {h : ez_H} {a0 : Int32} {a1 : Int32} {a2 : Int32} {a3 : Int32} {a4 : Int32} (S : zSh h) (hr : aR (ez_I h 74) 20 (-128) 127) (K : ∀ h2, zW (fun q k => q = 71 ∧ k = 0) (fun q => q = 74) (fun _ => False) h h2 → rdM (ez_I h2 74) 0 a0 4 → rdM (ez_I h2 74) 4 a1 4 → rdM (ez_I h2 74) 8 a2 4 → rdM (ez_I h2 74) 12 a3 4 → rdM (ez_I h2 74) 16 a4 4 → aR (ez_I h2 74) 20 (-128) 127 → Q (.inl none) h2) : ∀ N : Nat, (∀ (h2 : ez_H) (k : Int32) (l7 : Option Value) , zW (fun q k => q = 71 ∧ k = 0) (fun q => q = 74) (fun _ => False) h h2 → (0 ≤ k.toInt ∧ k.toInt ≤ 4) → rdM (ez_I h2 74) 0 a0 k.toInt.toNat → rdM (ez_I h2 74) 4 a1 k.toInt.toNat → rdM (ez_I h2 74) 8 a2 k.toInt.toNat → rdM (ez_I h2 74) 12 a3 k.toInt.toNat → rdM (ez_I h2 74) 16 a4 k.toInt.toNat → aR (ez_I h2 74) 20 (-128) 127 → (10 - k.toInt) < (N : Int) → pw E d 25 8 [some (.ref 71), some (.int a0), some (.int a1), some (.int a2), some (.int a3), some (.int a4), some (.int k), l7] [] h2 Q) := by
  intro N
  induction N with
  | zero => exact fun h2 k l7  F hinv A_m0 A_m1 A_m2 A_m3 A_m4 A_rg hm => absurd hm (by have w_k := z_rng k; have ga0 := z_rng a0; have ga1 := z_rng a1; have ga2 := z_rng a2; have ga3 := z_rng a3; have ga4 := z_rng a4; omega)
  | succ N ih =>
    refine fun h2 k l7  F hinv A_m0 A_m1 A_m2 A_m3 A_m4 A_rg hm => ?_
    · skip
      have w_k := z_rng k
      have ga0 := z_rng a0
      have ga1 := z_rng a1
      have ga2 := z_rng a2
      have ga3 := z_rng a3
      have ga4 := z_rng a4
      have S2 := zW_sh F S
      apply ez_Wp_in
      show ez_gw _ _ _ _ _ _ (cz_25) _ _ _ _ _
      refine gw_skip _ ?_
      have r1 := z_rng (ez_I h2 71 0)
      refine gw_ld rfl rfl ?_
      refine z_C (m := 4) rfl rfl (fun x2 ex2 => ?_)
      refine z_b2 (fun c3 => ?_) (fun c3 => ?_)
      · have c3 : x2.toInt ≤ k.toInt := c3
        refine gw_skip _ ?_
        refine z_rv ?_
        have hk4 : k.toInt.toNat = 4 := by omega
        have b0 := A_m0
        rw [hk4] at b0
        have b1 := A_m1
        rw [hk4] at b1
        have b2 := A_m2
        rw [hk4] at b2
        have b3 := A_m3
        rw [hk4] at b3
        have b4 := A_m4
        rw [hk4] at b4
        exact K _ F b0 b1 b2 b3 b4 A_rg
      · have c3 : ¬ (x2.toInt ≤ k.toInt) := c3
        refine z_C (m := 24) rfl rfl (fun x4 ex4 => ?_)
        refine z_C (m := 8) rfl rfl (fun x5 ex5 => ?_)
        refine gw_ld rfl rfl ?_
        refine z_mulL (c := 8) ex5 (by omega) (fun x6 ex6 => ?_)
        refine z_sub (by omega) (fun x7 ex7 => ?_)
        refine gw_st rfl rfl rfl ?_
        show ez_gw _ _ _ _ _ _ _ _ [some (.ref 71), some (.int a0), some (.int a1), some (.int a2), some (.int a3), some (.int a4), some (.int k), some (.int x7)] _ _ _
        refine gw_ld rfl rfl ?_
        refine z_gR (q := 74) (zT S2 (by decide) rfl) (zRf S2 (by decide) (by decide) rfl) (by decide) ?_
        refine gw_ld rfl rfl ?_
        refine gw_ld rfl rfl ?_
        refine gw_ld rfl rfl ?_
        refine z_2 rfl (fun x8 ex8 => ?_)
        have rx8 := z_rng x8
        refine z_1 rfl (fun x9 ex9 => ?_)
        have rx9 := z_rng x9
        refine z_bs (n := 20) (zT S2 (by decide) rfl) (zN S2 (by decide) rfl) (by omega) (fun h10 e11 => ?_)
        have S13 := zSh_set S2 e11
        have F14 := zW_setA F e11 (by omega)
        have f15 : ez_I h10 71 0 = (ez_I h2 71 0) := (zI_ne e11 (by omega)).trans (rfl)
        have A16 : rdM (ez_I h10 74) 0 a0 (k.toInt.toNat + 1) := rdM_s A_m0 e11 (by omega) (by rw [n_i2b, ex9, n_i2b]; exact byN_s (j := k.toInt.toNat) (by omega) (by omega) ex8) rfl
        have A17 : rdM (ez_I h10 74) 4 a1 k.toInt.toNat := rdM_o A_m1 e11 (by omega)
        have A18 : rdM (ez_I h10 74) 8 a2 k.toInt.toNat := rdM_o A_m2 e11 (by omega)
        have A19 : rdM (ez_I h10 74) 12 a3 k.toInt.toNat := rdM_o A_m3 e11 (by omega)
        have A20 : rdM (ez_I h10 74) 16 a4 k.toInt.toNat := rdM_o A_m4 e11 (by omega)
        have A21 : aR (ez_I h10 74) 20 (-128) 127 := aR_up A_rg e11 (n_i2b_rng _)
        refine gw_ld rfl rfl ?_
        refine z_gR (q := 74) (zT S13 (by decide) rfl) (zRf S13 (by decide) (by decide) rfl) (by decide) ?_
        refine z_C (m := 4) rfl rfl (fun x22 ex22 => ?_)
        refine gw_ld rfl rfl ?_
        refine z_add (by omega) (fun x23 ex23 => ?_)
        refine gw_ld rfl rfl ?_
        refine gw_ld rfl rfl ?_
        refine z_2 rfl (fun x24 ex24 => ?_)
        have rx24 := z_rng x24
        refine z_1 rfl (fun x25 ex25 => ?_)
        have rx25 := z_rng x25
        refine z_bs (n := 20) (zT S13 (by decide) rfl) (zN S13 (by decide) rfl) (by omega) (fun h26 e27 => ?_)
        have S29 := zSh_set S13 e27
        have F30 := zW_setA F14 e27 (by omega)
        have f31 : ez_I h26 71 0 = (ez_I h2 71 0) := (zI_ne e27 (by omega)).trans (f15)
        have A32 : rdM (ez_I h26 74) 0 a0 (k.toInt.toNat + 1) := rdM_o A16 e27 (by omega)
        have A33 : rdM (ez_I h26 74) 4 a1 (k.toInt.toNat + 1) := rdM_s A17 e27 (by omega) (by rw [n_i2b, ex25, n_i2b]; exact byN_s (j := k.toInt.toNat) (by omega) (by omega) ex24) rfl
        have A34 : rdM (ez_I h26 74) 8 a2 k.toInt.toNat := rdM_o A18 e27 (by omega)
        have A35 : rdM (ez_I h26 74) 12 a3 k.toInt.toNat := rdM_o A19 e27 (by omega)
        have A36 : rdM (ez_I h26 74) 16 a4 k.toInt.toNat := rdM_o A20 e27 (by omega)
        have A37 : aR (ez_I h26 74) 20 (-128) 127 := aR_up A21 e27 (n_i2b_rng _)
        clear A16
        clear A17
        clear A18
        clear A19
        clear A20
        clear A21
        refine gw_ld rfl rfl ?_
        refine z_gR (q := 74) (zT S29 (by decide) rfl) (zRf S29 (by decide) (by decide) rfl) (by decide) ?_
        refine z_C (m := 8) rfl rfl (fun x38 ex38 => ?_)
        refine gw_ld rfl rfl ?_
        refine z_add (by omega) (fun x39 ex39 => ?_)
        refine gw_ld rfl rfl ?_
        refine gw_ld rfl rfl ?_
        refine z_2 rfl (fun x40 ex40 => ?_)
        have rx40 := z_rng x40
        refine z_1 rfl (fun x41 ex41 => ?_)
        have rx41 := z_rng x41
        refine z_bs (n := 20) (zT S29 (by decide) rfl) (zN S29 (by decide) rfl) (by omega) (fun h42 e43 => ?_)
        have S45 := zSh_set S29 e43
        have F46 := zW_setA F30 e43 (by omega)
        have f47 : ez_I h42 71 0 = (ez_I h2 71 0) := (zI_ne e43 (by omega)).trans (f31)
        have A48 : rdM (ez_I h42 74) 0 a0 (k.toInt.toNat + 1) := rdM_o A32 e43 (by omega)
        have A49 : rdM (ez_I h42 74) 4 a1 (k.toInt.toNat + 1) := rdM_o A33 e43 (by omega)
        have A50 : rdM (ez_I h42 74) 8 a2 (k.toInt.toNat + 1) := rdM_s A34 e43 (by omega) (by rw [n_i2b, ex41, n_i2b]; exact byN_s (j := k.toInt.toNat) (by omega) (by omega) ex40) rfl
        have A51 : rdM (ez_I h42 74) 12 a3 k.toInt.toNat := rdM_o A35 e43 (by omega)
        have A52 : rdM (ez_I h42 74) 16 a4 k.toInt.toNat := rdM_o A36 e43 (by omega)
        have A53 : aR (ez_I h42 74) 20 (-128) 127 := aR_up A37 e43 (n_i2b_rng _)
        clear A32
        clear A33
        clear A34
        clear A35
        clear A36
        clear A37
        refine gw_ld rfl rfl ?_
        refine z_gR (q := 74) (zT S45 (by decide) rfl) (zRf S45 (by decide) (by decide) rfl) (by decide) ?_
        refine z_C (m := 12) rfl rfl (fun x54 ex54 => ?_)
        refine gw_ld rfl rfl ?_
        refine z_add (by omega) (fun x55 ex55 => ?_)
        refine gw_ld rfl rfl ?_
        refine gw_ld rfl rfl ?_
        refine z_2 rfl (fun x56 ex56 => ?_)
        have rx56 := z_rng x56
        refine z_1 rfl (fun x57 ex57 => ?_)
        have rx57 := z_rng x57
        refine z_bs (n := 20) (zT S45 (by decide) rfl) (zN S45 (by decide) rfl) (by omega) (fun h58 e59 => ?_)
        have S61 := zSh_set S45 e59
        have F62 := zW_setA F46 e59 (by omega)
        have f63 : ez_I h58 71 0 = (ez_I h2 71 0) := (zI_ne e59 (by omega)).trans (f47)
        have A64 : rdM (ez_I h58 74) 0 a0 (k.toInt.toNat + 1) := rdM_o A48 e59 (by omega)
        have A65 : rdM (ez_I h58 74) 4 a1 (k.toInt.toNat + 1) := rdM_o A49 e59 (by omega)
        have A66 : rdM (ez_I h58 74) 8 a2 (k.toInt.toNat + 1) := rdM_o A50 e59 (by omega)
        have A67 : rdM (ez_I h58 74) 12 a3 (k.toInt.toNat + 1) := rdM_s A51 e59 (by omega) (by rw [n_i2b, ex57, n_i2b]; exact byN_s (j := k.toInt.toNat) (by omega) (by omega) ex56) rfl
        have A68 : rdM (ez_I h58 74) 16 a4 k.toInt.toNat := rdM_o A52 e59 (by omega)
        have A69 : aR (ez_I h58 74) 20 (-128) 127 := aR_up A53 e59 (n_i2b_rng _)
        clear A48
        clear A49
        clear A50
        clear A51
        clear A52
        clear A53
        refine gw_ld rfl rfl ?_
        refine z_gR (q := 74) (zT S61 (by decide) rfl) (zRf S61 (by decide) (by decide) rfl) (by decide) ?_
        refine z_C (m := 16) rfl rfl (fun x70 ex70 => ?_)
        refine gw_ld rfl rfl ?_
        refine z_add (by omega) (fun x71 ex71 => ?_)
        refine gw_ld rfl rfl ?_
        refine gw_ld rfl rfl ?_
        refine z_2 rfl (fun x72 ex72 => ?_)
        have rx72 := z_rng x72
        refine z_1 rfl (fun x73 ex73 => ?_)
        have rx73 := z_rng x73
        refine z_bs (n := 20) (zT S61 (by decide) rfl) (zN S61 (by decide) rfl) (by omega) (fun h74 e75 => ?_)
        have S77 := zSh_set S61 e75
        have F78 := zW_setA F62 e75 (by omega)
        have f79 : ez_I h74 71 0 = (ez_I h2 71 0) := (zI_ne e75 (by omega)).trans (f63)
        have A80 : rdM (ez_I h74 74) 0 a0 (k.toInt.toNat + 1) := rdM_o A64 e75 (by omega)
        have A81 : rdM (ez_I h74 74) 4 a1 (k.toInt.toNat + 1) := rdM_o A65 e75 (by omega)
        have A82 : rdM (ez_I h74 74) 8 a2 (k.toInt.toNat + 1) := rdM_o A66 e75 (by omega)
        have A83 : rdM (ez_I h74 74) 12 a3 (k.toInt.toNat + 1) := rdM_o A67 e75 (by omega)
        have A84 : rdM (ez_I h74 74) 16 a4 (k.toInt.toNat + 1) := rdM_s A68 e75 (by omega) (by rw [n_i2b, ex73, n_i2b]; exact byN_s (j := k.toInt.toNat) (by omega) (by omega) ex72) rfl
        have A85 : aR (ez_I h74 74) 20 (-128) 127 := aR_up A69 e75 (n_i2b_rng _)
        clear A64
        clear A65
        clear A66
        clear A67
        clear A68
        clear A69
        refine z_inc rfl (by rw [show (1 : Int32).toInt = 1 from rfl]; omega) (fun x86 ex86 => ?_)
        rw [show (1 : Int32).toInt = 1 from rfl] at ex86
        show ez_gw _ _ _ _ _ _ _ _ [some (.ref 71), some (.int a0), some (.int a1), some (.int a2), some (.int a3), some (.int a4), some (.int x86), some (.int x7)] _ _ _
        refine z_go ?_
        have t87 := congrArg Int32.toInt (f79)
        exact ih h74 x86 (some (.int x7)) F78 (by omega) ((by rw [show x86.toInt.toNat = k.toInt.toNat + 1 by omega]; exact A80)) ((by rw [show x86.toInt.toNat = k.toInt.toNat + 1 by omega]; exact A81)) ((by rw [show x86.toInt.toNat = k.toInt.toNat + 1 by omega]; exact A82)) ((by rw [show x86.toInt.toNat = k.toInt.toNat + 1 by omega]; exact A83)) ((by rw [show x86.toInt.toNat = k.toInt.toNat + 1 by omega]; exact A84)) (A85) (by omega)
set_option maxRecDepth 4000 in
set_option maxHeartbeats 2000000 in
theorem m_feedF {E : Nat → Nat × (Nat → Int32)} {d : Nat} {Q : ez_Q} {h : ez_H} {a0 : Int32} {a1 : Int32} {a2 : Int32} {a3 : Int32} {a4 : Int32} (S : zSh h) (hr : aR (ez_I h 74) 20 (-128) 127) (K : ∀ h2, zW (fun q k => q = 71 ∧ k = 0) (fun q => q = 74) (fun _ => False) h h2 → rdM (ez_I h2 74) 0 a0 4 → rdM (ez_I h2 74) 4 a1 4 → rdM (ez_I h2 74) 8 a2 4 → rdM (ez_I h2 74) 12 a3 4 → rdM (ez_I h2 74) 16 a4 4 → aR (ez_I h2 74) 20 (-128) 127 → Q (.inl none) h2) : pw E d 25 0 [some (.ref 71), some (.int a0), some (.int a1), some (.int a2), some (.int a3), some (.int a4), none, none] [] h Q := by
  have ga0 := z_rng a0
  have ga1 := z_rng a1
  have ga2 := z_rng a2
  have ga3 := z_rng a3
  have ga4 := z_rng a4
  have F := zW_refl (fun q k => q = 71 ∧ k = 0) (fun q => q = 74) (fun _ => False) h
  apply ez_Wp_in
  show ez_gw _ _ _ _ _ _ (cz_25) _ _ _ _ _
  refine gw_skip _ ?_
  have r1 := z_rng (ez_I h 71 0)
  refine gw_ld rfl rfl ?_
  refine z_C (m := 0) rfl rfl (fun x2 ex2 => ?_)
  refine z_pI (zT S (by decide) rfl) (fun h3 e4 => ?_)
  have S5 := zSh_set S e4
  have F6 := zW_setF F e4 (by omega)
  have f7 : ez_I h3 71 0 = x2 := zI_eq e4
  have A8 : ez_I h3 74 = ez_I h 74 := by rw [zI_fn e4 74 (by decide)]
  refine z_C (m := 0) rfl rfl (fun x9 ex9 => ?_)
  refine gw_st rfl rfl rfl ?_
  show ez_gw _ _ _ _ _ _ _ _ [some (.ref 71), some (.int a0), some (.int a1), some (.int a2), some (.int a3), some (.int a4), some (.int x9), none] _ _ _
  have t10 := congrArg Int32.toInt (f7)
  exact ez_Wp_at ((m_feedF_L0 (a0 := a0) (a1 := a1) (a2 := a2) (a3 := a3) (a4 := a4) S hr K (((10 - x9.toInt)).toNat + 1)) h3 x9 (none) F6 (by omega) ((by rw [show x9.toInt.toNat = 0 by omega]; exact fun j hj => by omega)) ((by rw [show x9.toInt.toNat = 0 by omega]; exact fun j hj => by omega)) ((by rw [show x9.toInt.toNat = 0 by omega]; exact fun j hj => by omega)) ((by rw [show x9.toInt.toNat = 0 by omega]; exact fun j hj => by omega)) ((by rw [show x9.toInt.toNat = 0 by omega]; exact fun j hj => by omega)) ((by rw [A8]; exact hr)) (by omega)) rfl
set_option maxRecDepth 4000 in
set_option maxHeartbeats 2000000 in
theorem x_takeF {E : Nat → Nat × (Nat → Int32)} {d : Nat} {Q : ez_Q} {h : ez_H}  (S : zSh h) (hM : zMem h) (hz : 0 ≤ (ez_I h 4 1).toInt ∧ (ez_I h 4 1).toInt ≤ 6100) (Ke : 6000 < (ez_I h 4 1).toInt → Q (.inr 1) (ez_bump h)) (K : ∀ h2 (x : Int32), zW (fun q k => q = 2 ∧ k = 1) (fun q => q = 3) (fun _ => False) h h2 → (ez_I h 4 1).toInt ≤ 6000 → x = ez_I h2 2 1 → (ez_I h2 2 1).toInt = (ez_I h 4 1).toInt → (∀ k : Nat, (k : Int) < (ez_I h 4 1).toInt → ez_I h2 3 k = ez_I h 5 k) → Q (.inl (some (.int x))) h2) : pw E (d + 1) 5 0 [some (.ref 1)] [] h Q := by
  have F := zW_refl (fun q k => q = 2 ∧ k = 1) (fun q => q = 3) (fun _ => False) h
  apply ez_Wp_in
  show ez_gw _ _ _ _ _ _ (cz_5) _ _ _ _ _
  refine gw_skip _ ?_
  have r1 := z_rng (ez_I h 2 1)
  refine gw_ld rfl rfl ?_
  refine z_gR (q := 4) (zT S (by decide) rfl) (zRf S (by decide) (by decide) rfl) (by decide) ?_
  have r2 := z_rng (ez_I h 4 1)
  refine z_gI2 (by decide) (zT S (by decide) rfl) (zW_f F (by decide) (by decide)) ?_
  refine z_C (m := 6000) rfl rfl (fun x3 ex3 => ?_)
  refine z_b2 (fun c4 => ?_) (fun c4 => ?_)
  · have c4 : ((ez_I h 4 1)).toInt ≤ x3.toInt := c4
    refine gw_skip _ ?_
    refine gw_ld rfl rfl ?_
    refine z_gR (q := 2) (zT S (by decide) rfl) (zRf S (by decide) (by decide) rfl) (by decide) ?_
    refine gw_ld rfl rfl ?_
    refine z_gR (q := 4) (zT S (by decide) rfl) (zRf S (by decide) (by decide) rfl) (by decide) ?_
    refine z_cl rfl rfl rfl rfl rfl rfl rfl rfl rfl rfl rfl (zT S (by decide) rfl) ?_
    refine c_become (p := 2) (q := 4) S (by decide) (by decide) (by decide) (by omega) (fun h5 F6 k7 k8 => ?_)
    have S9 := zW_sh F6 S
    have F10 := zW_tr F (zW_mono F6 (fun q k hk => by first | omega | exact False.elim hk) (fun q hk => by first | omega | exact False.elim hk) (fun q hk => by first | omega | exact False.elim hk))
    have r11 := z_rng (ez_I h5 2 1)
    refine gw_ld rfl rfl ?_
    refine z_gR (q := 2) (zT S9 (by decide) rfl) (zRf S9 (by decide) (by decide) rfl) (by decide) ?_
    refine z_gI2 (by decide) (zT S9 (by decide) rfl) (rfl) ?_
    refine z_ri ?_
    exact K _ _ F10 (by omega) rfl k7 k8
  · have c4 : ¬ (((ez_I h 4 1)).toInt ≤ x3.toInt) := c4
    refine z_th (zMw F hM) ?_
    exact Ke (by omega)
end
section
/-! bits read by both -/
theorem n_setb {z b sh w x : Int32} {j : Nat} (hz : 0 ≤ z.toInt ∧ z.toInt < 2 ^ j) (hb : b.toInt = 0 ∨ b.toInt = 1) (hs : sh.toInt = j) (hj : j < 16) (gw : w = b <<< (sh &&& 31)) (gx : x = z ||| w) : x.toInt = z.toInt + b.toInt * 2 ^ j := by
  have p1 : (2 : Int) ^ j ≤ 2 ^ 15 := z_pow_le (by omega)
  have p2 := mulB (x := b.toInt) (y := 2 ^ j) (a := 1) (b := 32768) (c := 32768) ⟨by omega, by omega⟩ ⟨by omega, by omega⟩ (by decide)
  have hw : w.toInt = b.toInt * 2 ^ j := n_shl (n := j) hs (by omega) (by omega) (by omega) gw
  have hx : x.toInt = w.toInt + z.toInt := n_or (n := j) (a := b.toInt) hw (by omega) hz (by omega) (by rw [gx, Int32.or_comm])
  omega
theorem vB_s {T : Nat → Int} {p i m : Nat} {v b x : Int} (hv : v = (vB T p i : Nat)) (hb : b = (bitT T (p + i) : Nat)) (hx : x = v + b * 2 ^ i) (hm : m = i + 1) : x = (vB T p m : Nat) := by
  subst hm
  show x = ((vB T p i + bitT T (p + i) * 2 ^ i : Nat) : Int)
  rw [hx, hv, hb, n_pow, Int.natCast_add, Int.natCast_mul]
theorem bit_C {f : Nat → Int32} {z : Int32} {p b : Int} {q : Nat} (ez : f (p / 8).toNat = z) (hz : 0 ≤ z.toInt) (hp : 0 ≤ p) (hq : q = p.toNat) (hb : b = z.toInt / 2 ^ (p % 8).toNat % 2) : b = (bitT (tI f) q : Nat) := by
  subst hq
  rw [hb, n_bit hz]
  unfold bitT tI
  rw [show p.toNat / 8 = (p / 8).toNat by omega, ez, show p.toNat % 8 = (p % 8).toNat by omega]
theorem bit_M {f : Nat → Int32} {z : Int32} {p b : Int} {q : Nat} (ez : f (p / 8).toNat = z) (hp : 0 ≤ p) (hq : q = p.toNat) (hb : b = z.toInt / 2 ^ (p % 8).toNat % 2) : b = (bitT (tB f) q : Nat) := by
  subst hq
  unfold bitT tB
  rw [show p.toNat / 8 = (p / 8).toNat by omega, ez, show p.toNat % 8 = (p % 8).toNat by omega, ← n_bit (by omega), hb]
  rcases (by omega : (p % 8).toNat = 0 ∨ (p % 8).toNat = 1 ∨ (p % 8).toNat = 2 ∨ (p % 8).toNat = 3 ∨ (p % 8).toNat = 4 ∨ (p % 8).toNat = 5 ∨ (p % 8).toNat = 6 ∨ (p % 8).toNat = 7) with q | q | q | q | q | q | q | q <;> rw [q] <;> omega
/-! PRINTED by wip/pack: reading bits: both -/
set_option maxRecDepth 4000 in
set_option maxHeartbeats 2000000 in
theorem c_fail {E : Nat → Nat × (Nat → Int32)} {d : Nat} {Q : ez_Q} {h : ez_H} {i : Int32} (S : zSh h) (hM : zMem h) (hp : 0 ≤ (ez_I h 69 6).toInt ∧ (ez_I h 69 6).toInt ≤ 50000) (Ke : ∀ h2, zW (fun q k => q = 69 ∧ k = 2 ∨ q = 69 ∧ k = 3 ∨ q = 69 ∧ k = 6) (fun _ => False) (fun _ => False) h h2 → Q (.inr 2) (ez_bump h2)) (K : True) : pw E d 143 0 [some (.ref 69), some (.int i)] [] h Q := by
  have gi := z_rng i
  have F := zW_refl (fun q k => q = 69 ∧ k = 2 ∨ q = 69 ∧ k = 3 ∨ q = 69 ∧ k = 6) (fun _ => False) (fun _ => False) h
  apply ez_Wp_in
  show ez_gw _ _ _ _ _ _ (cz_143) _ _ _ _ _
  refine gw_skip _ ?_
  have r1 := z_rng (ez_I h 69 2)
  have r2 := z_rng (ez_I h 69 3)
  have r3 := z_rng (ez_I h 69 6)
  refine gw_ld rfl rfl ?_
  refine gw_ld rfl rfl ?_
  refine z_pI (zT S (by decide) rfl) (fun h4 e5 => ?_)
  have S6 := zSh_set S e5
  have F7 := zW_setF F e5 (by omega)
  have f8 : ez_I h4 69 2 = i := zI_eq e5
  have f9 : ez_I h4 69 3 = (ez_I h 69 3) := (zI_ne e5 (by decide)).trans (rfl)
  have f10 : ez_I h4 69 6 = (ez_I h 69 6) := (zI_ne e5 (by decide)).trans (rfl)
  refine gw_ld rfl rfl ?_
  refine gw_ld rfl rfl ?_
  refine z_gI2 (by decide) (zT S6 (by decide) rfl) (f10) ?_
  refine z_C (m := 7) rfl rfl (fun x11 ex11 => ?_)
  refine z_add (by omega) (fun x12 ex12 => ?_)
  refine z_C (m := 3) rfl rfl (fun x13 ex13 => ?_)
  refine z_2 rfl (fun x14 ex14 => ?_)
  have rx14 := z_rng x14
  have vx14 := n_shr (n := 3) (by omega) (by decide) ex14
  refine z_pI (zT S6 (by decide) rfl) (fun h15 e16 => ?_)
  have S17 := zSh_set S6 e16
  have F18 := zW_setF F7 e16 (by omega)
  have f19 : ez_I h15 69 2 = i := (zI_ne e16 (by decide)).trans (f8)
  have f20 : ez_I h15 69 3 = x14 := zI_eq e16
  have f21 : ez_I h15 69 6 = (ez_I h 69 6) := (zI_ne e16 (by decide)).trans (f10)
  have t22 := congrArg Int32.toInt (f19)
  have t23 := congrArg Int32.toInt (f20)
  have t24 := congrArg Int32.toInt (f21)
  refine z_th (zMw F18 hM) ?_
  exact Ke _ F18
set_option maxRecDepth 4000 in
set_option maxHeartbeats 2000000 in
theorem c_tb_L0 {E : Nat → Nat × (Nat → Int32)} {d : Nat} {Q : ez_Q} {h : ez_H} {n : Int32} (S : zSh h) (hM : zMem h) (hz : 0 ≤ (ez_I h 2 1).toInt ∧ (ez_I h 2 1).toInt ≤ 6000) (hb : aR (ez_I h 3) (ez_I h 2 1).toInt.toNat 0 255) (hp : 0 ≤ (ez_I h 69 6).toInt ∧ (ez_I h 69 6).toInt ≤ 8 * (ez_I h 2 1).toInt) (hn : 0 ≤ n.toInt ∧ n.toInt ≤ 16) (Ke : 8 * (ez_I h 2 1).toInt < (ez_I h 69 6).toInt + n.toInt → ∀ h2, zW (fun q k => q = 69 ∧ k = 2 ∨ q = 69 ∧ k = 3 ∨ q = 69 ∧ k = 6) (fun _ => False) (fun _ => False) h h2 → Q (.inr 2) (ez_bump h2)) (K : ∀ h2 (x : Int32), zW (fun q k => q = 69 ∧ k = 2 ∨ q = 69 ∧ k = 3 ∨ q = 69 ∧ k = 6) (fun _ => False) (fun _ => False) h h2 → (ez_I h 69 6).toInt + n.toInt ≤ 8 * (ez_I h 2 1).toInt → x.toInt = (vB (tI (ez_I h 3)) (ez_I h 69 6).toInt.toNat n.toInt.toNat : Nat) → (ez_I h2 69 6).toInt = (ez_I h 69 6).toInt + n.toInt → Q (.inl (some (.int x))) h2) : ∀ N : Nat, (∀ (h2 : ez_H) (v : Int32) (i : Int32) (l5 : Option Value) , zW (fun q k => q = 69 ∧ k = 2 ∨ q = 69 ∧ k = 3 ∨ q = 69 ∧ k = 6) (fun _ => False) (fun _ => False) h h2 → (0 ≤ i.toInt ∧ i.toInt ≤ n.toInt ∧ (ez_I h2 69 6).toInt = (ez_I h 69 6).toInt + i.toInt ∧ (ez_I h2 69 6).toInt ≤ 8 * (ez_I h 2 1).toInt ∧ v.toInt = (vB (tI (ez_I h 3)) (ez_I h 69 6).toInt.toNat i.toInt.toNat : Nat)) → (100 - i.toInt) < (N : Int) → pw E (d + 1) 142 5 [some (.ref 69), some (.ref 2), some (.int n), some (.int v), some (.int i), l5] [] h2 Q) := by
  intro N
  induction N with
  | zero => exact fun h2 v i l5  F hinv  hm => absurd hm (by have w_v := z_rng v; have w_i := z_rng i; have gn := z_rng n; omega)
  | succ N ih =>
    refine fun h2 v i l5  F hinv  hm => ?_
    · skip
      have w_v := z_rng v
      have w_i := z_rng i
      have gn := z_rng n
      have S2 := zW_sh F S
      have hvl := vB_lt (tI (ez_I h 3)) (ez_I h 69 6).toInt.toNat i.toInt.toNat
      have hvp := n_pow i.toInt.toNat
      apply ez_Wp_in
      show ez_gw _ _ _ _ _ _ (cz_142) _ _ _ _ _
      refine gw_skip _ ?_
      have r1 := z_rng (ez_I h2 69 2)
      have r2 := z_rng (ez_I h2 69 3)
      have r3 := z_rng (ez_I h2 69 6)
      refine gw_ld rfl rfl ?_
      refine gw_ld rfl rfl ?_
      refine z_b2 (fun c4 => ?_) (fun c4 => ?_)
      · have c4 : n.toInt ≤ i.toInt := c4
        refine gw_skip _ ?_
        refine gw_ld rfl rfl ?_
        refine z_ri ?_
        have he : n.toInt.toNat = i.toInt.toNat := by omega
        rw [he] at K
        exact K _ _ F (by omega) (by omega) (by omega)
      · have c4 : ¬ (n.toInt ≤ i.toInt) := c4
        refine gw_ld rfl rfl ?_
        refine z_gI2 (by decide) (zT S2 (by decide) rfl) (rfl) ?_
        refine z_C (m := 3) rfl rfl (fun x5 ex5 => ?_)
        refine z_2 rfl (fun x6 ex6 => ?_)
        have rx6 := z_rng x6
        have vx6 := n_shr (n := 3) (by omega) (by decide) ex6
        rw [show (2 : Int) ^ 3 = 8 from rfl] at vx6
        refine gw_st rfl rfl rfl ?_
        show ez_gw _ _ _ _ _ _ _ _ [some (.ref 69), some (.ref 2), some (.int n), some (.int v), some (.int i), some (.int x6)] _ _ _
        refine gw_ld rfl rfl ?_
        refine gw_ld rfl rfl ?_
        refine z_cl rfl rfl rfl rfl rfl rfl rfl rfl rfl rfl rfl (zT S2 (by decide) rfl) ?_
        refine c_has (p := 2) (i := x6) S2 (by decide) (fun x7 k8 k9 k10 => ?_)
        rw [(show ez_I h2 2 1 = ez_I h 2 1 from zW_f F (by decide) (by decide))] at k9 k10
        have rx7 := z_rng x7
        refine z_b1 (fun c11 => ?_) (fun c11 => ?_)
        · have c11 : x7.toInt ≠ 0 := c11
          refine gw_skip _ ?_
          refine gw_ld rfl rfl ?_
          refine gw_ld rfl rfl ?_
          refine z_gR (q := 3) (zT S2 (by decide) rfl) (zRf S2 (by decide) (by decide) rfl) (by decide) ?_
          refine gw_ld rfl rfl ?_
          refine z_iaV (n := 6100) (zT S2 (by decide) rfl) (zN S2 (by decide) rfl) (by omega) (zW_f F (fun c => c) (by omega)) ?_
          generalize ex12 : ez_I h 3 x6.toInt.toNat = x12
          have rx12 := z_rng x12
          have yx12 := hb x6.toInt.toNat (by omega)
          rw [ex12] at yx12
          refine gw_ld rfl rfl ?_
          refine z_gI2 (by decide) (zT S2 (by decide) rfl) (rfl) ?_
          refine z_C (m := 7) rfl rfl (fun x13 ex13 => ?_)
          refine z_and (fun x14 ex14 ux14 wx14 => ?_)
          have rx14 := z_rng x14
          replace ux14 := ux14 (by omega)
          clear wx14
          have vx14 := n_mask (k := 3) (by decide) (by omega) ex14
          rw [show (2 : Int) ^ 3 = 8 from rfl] at vx14
          refine z_2 rfl (fun x15 ex15 => ?_)
          have rx15 := z_rng x15
          have vx15 := n_shr (n := ((ez_I h2 69 6).toInt % 8).toNat) (by omega) (by omega) ex15
          refine z_C (m := 1) rfl rfl (fun x16 ex16 => ?_)
          refine z_and (fun x17 ex17 ux17 wx17 => ?_)
          have rx17 := z_rng x17
          replace ux17 := ux17 (by omega)
          clear wx17
          have vx17 := n_mask (k := 1) (by decide) (by omega) ex17
          rw [show (2 : Int) ^ 1 = 2 from rfl, vx15] at vx17
          refine gw_ld rfl rfl ?_
          refine z_2 rfl (fun x18 ex18 => ?_)
          have rx18 := z_rng x18
          have eS := ex18
          refine z_2 rfl (fun x19 ex19 => ?_)
          have rx19 := z_rng x19
          have hbt : x17.toInt = (bitT (tI (ez_I h 3)) ((ez_I h 69 6).toInt.toNat + i.toInt.toNat) : Nat) := bit_C (p := (ez_I h2 69 6).toInt) (z := x12) (by rw [show ((ez_I h2 69 6).toInt / 8).toNat = x6.toInt.toNat by omega]; exact ex12) (by omega) (by omega) (by omega) (by omega)
          have hor := n_setb (z := v) (b := x17) (j := i.toInt.toNat) (by omega) (by omega) (by omega) (by omega) eS ex19
          refine gw_st rfl rfl rfl ?_
          show ez_gw _ _ _ _ _ _ _ _ [some (.ref 69), some (.ref 2), some (.int n), some (.int x19), some (.int i), some (.int x6)] _ _ _
          refine gw_ld rfl rfl ?_
          refine gw_op rfl ?_
          refine z_gI2 (by decide) (zT S2 (by decide) rfl) (rfl) ?_
          refine z_C (m := 1) rfl rfl (fun x20 ex20 => ?_)
          refine z_add (by omega) (fun x21 ex21 => ?_)
          refine z_pI (zT S2 (by decide) rfl) (fun h22 e23 => ?_)
          have S24 := zSh_set S2 e23
          have F25 := zW_setF F e23 (by omega)
          have f26 : ez_I h22 69 2 = (ez_I h2 69 2) := (zI_ne e23 (by decide)).trans (rfl)
          have f27 : ez_I h22 69 3 = (ez_I h2 69 3) := (zI_ne e23 (by decide)).trans (rfl)
          have f28 : ez_I h22 69 6 = x21 := zI_eq e23
          refine z_inc rfl (by rw [show (1 : Int32).toInt = 1 from rfl]; omega) (fun x29 ex29 => ?_)
          rw [show (1 : Int32).toInt = 1 from rfl] at ex29
          show ez_gw _ _ _ _ _ _ _ _ [some (.ref 69), some (.ref 2), some (.int n), some (.int x19), some (.int x29), some (.int x6)] _ _ _
          refine z_go ?_
          have t30 := congrArg Int32.toInt (f26)
          have t31 := congrArg Int32.toInt (f27)
          have t32 := congrArg Int32.toInt (f28)
          exact ih h22 x19 x29 (some (.int x6)) F25 (⟨by omega, by omega, by omega, by omega, vB_s (i := i.toInt.toNat) (b := x17.toInt) (v := v.toInt) (by omega) hbt hor (by omega)⟩)  (by omega)
        · have c11 : ¬ (x7.toInt ≠ 0) := c11
          refine gw_ld rfl rfl ?_
          refine z_C (m := 1) rfl rfl (fun x33 ex33 => ?_)
          refine z_cl rfl rfl rfl rfl rfl rfl rfl rfl rfl rfl rfl (zT S2 (by decide) rfl) ?_
          exact c_fail (i := x33) S2 (zMw F hM) (by omega) (fun hh FF => Ke (by omega) hh (zW_tr F FF)) trivial
set_option maxRecDepth 4000 in
set_option maxHeartbeats 2000000 in
theorem c_tb {E : Nat → Nat × (Nat → Int32)} {d : Nat} {Q : ez_Q} {h : ez_H} {n : Int32} (S : zSh h) (hM : zMem h) (hz : 0 ≤ (ez_I h 2 1).toInt ∧ (ez_I h 2 1).toInt ≤ 6000) (hb : aR (ez_I h 3) (ez_I h 2 1).toInt.toNat 0 255) (hp : 0 ≤ (ez_I h 69 6).toInt ∧ (ez_I h 69 6).toInt ≤ 8 * (ez_I h 2 1).toInt) (hn : 0 ≤ n.toInt ∧ n.toInt ≤ 16) (Ke : 8 * (ez_I h 2 1).toInt < (ez_I h 69 6).toInt + n.toInt → ∀ h2, zW (fun q k => q = 69 ∧ k = 2 ∨ q = 69 ∧ k = 3 ∨ q = 69 ∧ k = 6) (fun _ => False) (fun _ => False) h h2 → Q (.inr 2) (ez_bump h2)) (K : ∀ h2 (x : Int32), zW (fun q k => q = 69 ∧ k = 2 ∨ q = 69 ∧ k = 3 ∨ q = 69 ∧ k = 6) (fun _ => False) (fun _ => False) h h2 → (ez_I h 69 6).toInt + n.toInt ≤ 8 * (ez_I h 2 1).toInt → x.toInt = (vB (tI (ez_I h 3)) (ez_I h 69 6).toInt.toNat n.toInt.toNat : Nat) → (ez_I h2 69 6).toInt = (ez_I h 69 6).toInt + n.toInt → Q (.inl (some (.int x))) h2) : pw E (d + 1) 142 0 [some (.ref 69), some (.ref 2), some (.int n), none, none, none] [] h Q := by
  have gn := z_rng n
  have F := zW_refl (fun q k => q = 69 ∧ k = 2 ∨ q = 69 ∧ k = 3 ∨ q = 69 ∧ k = 6) (fun _ => False) (fun _ => False) h
  apply ez_Wp_in
  show ez_gw _ _ _ _ _ _ (cz_142) _ _ _ _ _
  refine gw_skip _ ?_
  have r1 := z_rng (ez_I h 69 2)
  have r2 := z_rng (ez_I h 69 3)
  have r3 := z_rng (ez_I h 69 6)
  refine z_C (m := 0) rfl rfl (fun x4 ex4 => ?_)
  refine gw_st rfl rfl rfl ?_
  show ez_gw _ _ _ _ _ _ _ _ [some (.ref 69), some (.ref 2), some (.int n), some (.int x4), none, none] _ _ _
  refine z_C (m := 0) rfl rfl (fun x5 ex5 => ?_)
  refine gw_st rfl rfl rfl ?_
  show ez_gw _ _ _ _ _ _ _ _ [some (.ref 69), some (.ref 2), some (.int n), some (.int x4), some (.int x5), none] _ _ _
  exact ez_Wp_at ((c_tb_L0 (n := n) S hM hz hb hp hn Ke K (((100 - x5.toInt)).toNat + 1)) h x4 x5 (none) F (⟨by omega, by omega, by omega, by omega, by rw [show x5.toInt.toNat = 0 by omega]; show _ = ((0 : Nat) : Int); omega⟩)  (by omega)) rfl
set_option maxRecDepth 4000 in
set_option maxHeartbeats 2000000 in
theorem d_tb_L0 {E : Nat → Nat × (Nat → Int32)} {d : Nat} {Q : ez_Q} {h : ez_H} {n : Int32} (S : zSh h) (hz : 0 ≤ (ez_I h 71 6).toInt ∧ (ez_I h 71 6).toInt ≤ 6000) (hp : 0 ≤ (ez_I h 71 59).toInt ∧ (ez_I h 71 59).toInt ≤ 8 * (ez_I h 71 6).toInt) (hf : 0 ≤ (ez_I h 71 61).toInt) (hn : 0 ≤ n.toInt ∧ n.toInt ≤ 16) (K : ∀ h2 (x : Int32), zW (fun q k => q = 71 ∧ k = 59 ∨ q = 71 ∧ k = 61) (fun _ => False) (fun _ => False) h h2 → ((ez_I h 71 61).toInt = 0 → (ez_I h 71 59).toInt + n.toInt ≤ 8 * (ez_I h 71 6).toInt → x.toInt = (vB (tB (ez_I h 72)) (ez_I h 71 59).toInt.toNat n.toInt.toNat : Nat) ∧ (ez_I h2 71 59).toInt = (ez_I h 71 59).toInt + n.toInt ∧ (ez_I h2 71 61).toInt = 0) → ((ez_I h 71 61).toInt = 0 → 8 * (ez_I h 71 6).toInt < (ez_I h 71 59).toInt + n.toInt → (ez_I h2 71 61).toInt = 1 ∧ 0 ≤ (ez_I h2 71 59).toInt ∧ (ez_I h2 71 59).toInt ≤ 8 * (ez_I h 71 6).toInt) → ((ez_I h 71 61).toInt ≠ 0 → (ez_I h2 71 61).toInt = (ez_I h 71 61).toInt ∧ (ez_I h2 71 59).toInt = (ez_I h 71 59).toInt) → Q (.inl (some (.int x))) h2) : ∀ N : Nat, (∀ (h2 : ez_H) (v : Int32) (i : Int32) , zW (fun q k => q = 71 ∧ k = 59 ∨ q = 71 ∧ k = 61) (fun _ => False) (fun _ => False) h h2 → (0 ≤ i.toInt ∧ i.toInt ≤ n.toInt ∧ (((ez_I h 71 61).toInt = 0 ∧ (ez_I h2 71 61).toInt = 0 ∧ (ez_I h2 71 59).toInt = (ez_I h 71 59).toInt + i.toInt ∧ (ez_I h2 71 59).toInt ≤ 8 * (ez_I h 71 6).toInt ∧ v.toInt = (vB (tB (ez_I h 72)) (ez_I h 71 59).toInt.toNat i.toInt.toNat : Nat)) ∨ ((ez_I h 71 61).toInt = 0 ∧ (ez_I h2 71 61).toInt = 1 ∧ (ez_I h2 71 59).toInt = 8 * (ez_I h 71 6).toInt ∧ 8 * (ez_I h 71 6).toInt < (ez_I h 71 59).toInt + n.toInt) ∨ ((ez_I h 71 61).toInt ≠ 0 ∧ (ez_I h2 71 61).toInt = (ez_I h 71 61).toInt ∧ (ez_I h2 71 59).toInt = (ez_I h 71 59).toInt))) → (100 - i.toInt) < (N : Int) → pw E d 51 4 [some (.ref 71), some (.int n), some (.int v), some (.int i)] [] h2 Q) := by
  intro N
  induction N with
  | zero => exact fun h2 v i  F hinv  hm => absurd hm (by have w_v := z_rng v; have w_i := z_rng i; have gn := z_rng n; omega)
  | succ N ih =>
    refine fun h2 v i  F hinv  hm => ?_
    · skip
      have w_v := z_rng v
      have w_i := z_rng i
      have gn := z_rng n
      have S2 := zW_sh F S
      have hvl := vB_lt (tB (ez_I h 72)) (ez_I h 71 59).toInt.toNat i.toInt.toNat
      have hvp := n_pow i.toInt.toNat
      apply ez_Wp_in
      show ez_gw _ _ _ _ _ _ (cz_51) _ _ _ _ _
      refine gw_skip _ ?_
      have r1 := z_rng (ez_I h2 71 59)
      have r2 := z_rng (ez_I h2 71 61)
      refine gw_ld rfl rfl ?_
      refine gw_ld rfl rfl ?_
      refine z_b2 (fun c3 => ?_) (fun c3 => ?_)
      · have c3 : n.toInt ≤ i.toInt := c3
        refine gw_skip _ ?_
        refine gw_ld rfl rfl ?_
        refine z_ri ?_
        by_cases hq : (ez_I h2 71 61).toInt = 0
        · exact K _ _ F (fun _ _ => ⟨(by rw [show n.toInt.toNat = i.toInt.toNat by omega]; omega), by omega, by omega⟩) (fun q => by omega) (fun q => by omega)
        · exact K _ _ F (fun q r => by exfalso; omega) (fun q => by omega) (fun q => by omega)
      · have c3 : ¬ (n.toInt ≤ i.toInt) := c3
        refine gw_ld rfl rfl ?_
        refine z_gI2 (by decide) (zT S2 (by decide) rfl) (rfl) ?_
        refine z_b1 (fun c4 => ?_) (fun c4 => ?_)
        · have c4 : ((ez_I h2 71 61)).toInt ≠ 0 := c4
          refine gw_skip _ ?_
          refine gw_ld rfl rfl ?_
          refine z_ri ?_
          by_cases hq : (ez_I h2 71 61).toInt = 0
          · exact K _ _ F (fun _ _ => ⟨(by rw [show n.toInt.toNat = i.toInt.toNat by omega]; omega), by omega, by omega⟩) (fun q => by omega) (fun q => by omega)
          · exact K _ _ F (fun q r => by exfalso; omega) (fun q => by omega) (fun q => by omega)
        · have c4 : ¬ (((ez_I h2 71 61)).toInt ≠ 0) := c4
          refine gw_ld rfl rfl ?_
          refine z_gI2 (by decide) (zT S2 (by decide) rfl) (rfl) ?_
          refine z_C (m := 8) rfl rfl (fun x5 ex5 => ?_)
          refine z_dvP (c := 8) ex5 (by decide) (by omega) (fun x6 ex6 => ?_)
          refine gw_ld rfl rfl ?_
          have r7 := z_rng (ez_I h 71 6)
          refine z_gI2 (by decide) (zT S2 (by decide) rfl) (zW_f F (fun c => c) (by decide)) ?_
          refine z_b2 (fun c8 => ?_) (fun c8 => ?_)
          · have c8 : x6.toInt < ((ez_I h 71 6)).toInt := c8
            refine gw_skip _ ?_
            refine gw_ld rfl rfl ?_
            refine gw_ld rfl rfl ?_
            refine z_gR (q := 72) (zT S2 (by decide) rfl) (zRf S2 (by decide) (by decide) rfl) (by decide) ?_
            refine gw_ld rfl rfl ?_
            refine z_gI2 (by decide) (zT S2 (by decide) rfl) (rfl) ?_
            refine z_C (m := 8) rfl rfl (fun x9 ex9 => ?_)
            refine z_dvP (c := 8) ex9 (by decide) (by omega) (fun x10 ex10 => ?_)
            refine z_baV (n := 6000) (zT S2 (by decide) rfl) (zN S2 (by decide) rfl) (by omega) (zW_f F (fun c => c) (by omega)) ?_
            generalize ex11 : ez_I h 72 x10.toInt.toNat = x11
            have rx11 := z_rng x11
            refine gw_ld rfl rfl ?_
            refine z_gI2 (by decide) (zT S2 (by decide) rfl) (rfl) ?_
            refine z_C (m := 8) rfl rfl (fun x12 ex12 => ?_)
            refine z_rmP (c := 8) ex12 (by decide) (by omega) (fun x13 ex13 => ?_)
            refine z_2 rfl (fun x14 ex14 => ?_)
            have rx14 := z_rng x14
            have vx14 := n_shr (n := ((ez_I h2 71 59).toInt % 8).toNat) (by omega) (by omega) ex14
            refine z_C (m := 1) rfl rfl (fun x15 ex15 => ?_)
            refine z_and (fun x16 ex16 ux16 wx16 => ?_)
            have rx16 := z_rng x16
            replace ux16 := ux16 (by omega)
            clear wx16
            have vx16 := n_mask (k := 1) (by decide) (by omega) ex16
            rw [show (2 : Int) ^ 1 = 2 from rfl, vx14] at vx16
            refine gw_ld rfl rfl ?_
            refine z_2 rfl (fun x17 ex17 => ?_)
            have rx17 := z_rng x17
            have eS := ex17
            refine z_2 rfl (fun x18 ex18 => ?_)
            have rx18 := z_rng x18
            have hbt : x16.toInt = (bitT (tB (ez_I h 72)) ((ez_I h 71 59).toInt.toNat + i.toInt.toNat) : Nat) := bit_M (p := (ez_I h2 71 59).toInt) (z := x11) (by rw [show ((ez_I h2 71 59).toInt / 8).toNat = x10.toInt.toNat by omega]; exact ex11) (by omega) (by omega) (by omega)
            have hor := n_setb (z := v) (b := x16) (j := i.toInt.toNat) (by omega) (by omega) (by omega) (by omega) eS ex18
            refine gw_st rfl rfl rfl ?_
            show ez_gw _ _ _ _ _ _ _ _ [some (.ref 71), some (.int n), some (.int x18), some (.int i)] _ _ _
            refine gw_ld rfl rfl ?_
            refine gw_op rfl ?_
            refine z_gI2 (by decide) (zT S2 (by decide) rfl) (rfl) ?_
            refine gw_ld rfl rfl ?_
            refine z_gI2 (by decide) (zT S2 (by decide) rfl) (rfl) ?_
            refine z_b1 (fun c19 => ?_) (fun c19 => ?_)
            · have c19 : ((ez_I h2 71 61)).toInt ≠ 0 := c19
              exfalso; omega
            · have c19 : ¬ (((ez_I h2 71 61)).toInt ≠ 0) := c19
              refine z_C (m := 1) rfl rfl (fun x20 ex20 => ?_)
              refine z_go ?_
              refine gw_skip _ ?_
              refine z_add (by omega) (fun x21 ex21 => ?_)
              refine z_pI (zT S2 (by decide) rfl) (fun h22 e23 => ?_)
              have S24 := zSh_set S2 e23
              have F25 := zW_setF F e23 (by omega)
              have f26 : ez_I h22 71 59 = x21 := zI_eq e23
              have f27 : ez_I h22 71 61 = (ez_I h2 71 61) := (zI_ne e23 (by decide)).trans (rfl)
              refine z_inc rfl (by rw [show (1 : Int32).toInt = 1 from rfl]; omega) (fun x28 ex28 => ?_)
              rw [show (1 : Int32).toInt = 1 from rfl] at ex28
              show ez_gw _ _ _ _ _ _ _ _ [some (.ref 71), some (.int n), some (.int x18), some (.int x28)] _ _ _
              refine z_go ?_
              have t29 := congrArg Int32.toInt (f26)
              have t30 := congrArg Int32.toInt (f27)
              exact ih h22 x18 x28 F25 (⟨by omega, by omega, .inl ⟨by omega, by omega, by omega, by omega, vB_s (i := i.toInt.toNat) (b := x16.toInt) (v := v.toInt) (by omega) hbt hor (by omega)⟩⟩)  (by omega)
          · have c8 : ¬ (x6.toInt < ((ez_I h 71 6)).toInt) := c8
            refine gw_ld rfl rfl ?_
            refine z_C (m := 1) rfl rfl (fun x31 ex31 => ?_)
            refine z_pI (zT S2 (by decide) rfl) (fun h32 e33 => ?_)
            have S34 := zSh_set S2 e33
            have F35 := zW_setF F e33 (by omega)
            have f36 : ez_I h32 71 59 = (ez_I h2 71 59) := (zI_ne e33 (by decide)).trans (rfl)
            have f37 : ez_I h32 71 61 = x31 := zI_eq e33
            refine z_go ?_
            refine gw_skip _ ?_
            refine gw_ld rfl rfl ?_
            refine gw_op rfl ?_
            refine z_gI2 (by decide) (zT S34 (by decide) rfl) (f36) ?_
            refine gw_ld rfl rfl ?_
            refine z_gI2 (by decide) (zT S34 (by decide) rfl) (f37) ?_
            refine z_b1 (fun c38 => ?_) (fun c38 => ?_)
            · have c38 : x31.toInt ≠ 0 := c38
              refine gw_skip _ ?_
              refine z_C (m := 0) rfl rfl (fun x39 ex39 => ?_)
              refine z_add (by omega) (fun x40 ex40 => ?_)
              refine z_pI (zT S34 (by decide) rfl) (fun h41 e42 => ?_)
              have S43 := zSh_set S34 e42
              have F44 := zW_setF F35 e42 (by omega)
              have f45 : ez_I h41 71 59 = x40 := zI_eq e42
              have f46 : ez_I h41 71 61 = x31 := (zI_ne e42 (by decide)).trans (f37)
              refine z_inc rfl (by rw [show (1 : Int32).toInt = 1 from rfl]; omega) (fun x47 ex47 => ?_)
              rw [show (1 : Int32).toInt = 1 from rfl] at ex47
              show ez_gw _ _ _ _ _ _ _ _ [some (.ref 71), some (.int n), some (.int v), some (.int x47)] _ _ _
              refine z_go ?_
              have t48 := congrArg Int32.toInt (f45)
              have t49 := congrArg Int32.toInt (f46)
              exact ih h41 v x47 F44 (⟨by omega, by omega, .inr (.inl (by omega))⟩)  (by omega)
            · have c38 : ¬ (x31.toInt ≠ 0) := c38
              exfalso; omega
set_option maxRecDepth 4000 in
set_option maxHeartbeats 2000000 in
theorem d_tb {E : Nat → Nat × (Nat → Int32)} {d : Nat} {Q : ez_Q} {h : ez_H} {n : Int32} (S : zSh h) (hz : 0 ≤ (ez_I h 71 6).toInt ∧ (ez_I h 71 6).toInt ≤ 6000) (hp : 0 ≤ (ez_I h 71 59).toInt ∧ (ez_I h 71 59).toInt ≤ 8 * (ez_I h 71 6).toInt) (hf : 0 ≤ (ez_I h 71 61).toInt) (hn : 0 ≤ n.toInt ∧ n.toInt ≤ 16) (K : ∀ h2 (x : Int32), zW (fun q k => q = 71 ∧ k = 59 ∨ q = 71 ∧ k = 61) (fun _ => False) (fun _ => False) h h2 → ((ez_I h 71 61).toInt = 0 → (ez_I h 71 59).toInt + n.toInt ≤ 8 * (ez_I h 71 6).toInt → x.toInt = (vB (tB (ez_I h 72)) (ez_I h 71 59).toInt.toNat n.toInt.toNat : Nat) ∧ (ez_I h2 71 59).toInt = (ez_I h 71 59).toInt + n.toInt ∧ (ez_I h2 71 61).toInt = 0) → ((ez_I h 71 61).toInt = 0 → 8 * (ez_I h 71 6).toInt < (ez_I h 71 59).toInt + n.toInt → (ez_I h2 71 61).toInt = 1 ∧ 0 ≤ (ez_I h2 71 59).toInt ∧ (ez_I h2 71 59).toInt ≤ 8 * (ez_I h 71 6).toInt) → ((ez_I h 71 61).toInt ≠ 0 → (ez_I h2 71 61).toInt = (ez_I h 71 61).toInt ∧ (ez_I h2 71 59).toInt = (ez_I h 71 59).toInt) → Q (.inl (some (.int x))) h2) : pw E d 51 0 [some (.ref 71), some (.int n), none, none] [] h Q := by
  have gn := z_rng n
  have F := zW_refl (fun q k => q = 71 ∧ k = 59 ∨ q = 71 ∧ k = 61) (fun _ => False) (fun _ => False) h
  apply ez_Wp_in
  show ez_gw _ _ _ _ _ _ (cz_51) _ _ _ _ _
  refine gw_skip _ ?_
  have r1 := z_rng (ez_I h 71 59)
  have r2 := z_rng (ez_I h 71 61)
  refine z_C (m := 0) rfl rfl (fun x3 ex3 => ?_)
  refine gw_st rfl rfl rfl ?_
  show ez_gw _ _ _ _ _ _ _ _ [some (.ref 71), some (.int n), some (.int x3), none] _ _ _
  refine z_C (m := 0) rfl rfl (fun x4 ex4 => ?_)
  refine gw_st rfl rfl rfl ?_
  show ez_gw _ _ _ _ _ _ _ _ [some (.ref 71), some (.int n), some (.int x3), some (.int x4)] _ _ _
  exact ez_Wp_at ((d_tb_L0 (n := n) S hz hp hf hn K (((100 - x4.toInt)).toNat + 1)) h x3 x4 F (⟨by omega, by omega, by have e0 : vB (tB (ez_I h 72)) (ez_I h 71 59).toInt.toNat 0 = 0 := rfl; rw [show x4.toInt.toNat = 0 by omega]; omega⟩)  (by omega)) rfl
end
section
/-! a symbol read by the class -/
theorem vB_1 (T : Nat → Int) (p : Nat) : vB T p 1 = bitT T p := by
  show 0 + bitT T (p + 0) * 2 ^ 0 = _
  rw [Nat.pow_zero, Nat.mul_one, Nat.add_zero]
  omega
theorem cdV_n {T : Nat → Int} {p l : Nat} (h : 1 ≤ l) : cdV T p l = 2 * cdV T p (l - 1) + bitT T (p + (l - 1)) := by
  obtain ⟨m, rfl⟩ : ∃ m, l = m + 1 := ⟨l - 1, by omega⟩
  rfl
theorem plN_up {L : Nat → Nat} {N a : Nat} (ha : 1 ≤ a) : ∀ b, a ≤ b → plN L N a ≤ plN L N b := by
  intro b
  induction b with
  | zero => intro h; omega
  | succ b ih =>
    intro h
    by_cases e : a = b + 1
    · subst e; exact Nat.le_refl _
    · have := ih (by omega)
      rw [plN_s (by omega)]
      omega
theorem sdR_no {T : Nat → Int} {n p : Nat} {L : Nat → Nat} {N : Nat} (h : sdF T n p L N 15 1 = none) : sdR T n p L N = none := by
  unfold sdR
  rw [h]
theorem sd_done {T : Nat → Int} {n p : Nat} {L : Nat → Nat} {N l : Nat} (hl : 1 ≤ l ∧ l ≤ 16) (hp : plN L N 16 ≤ plN L N l) (hc : ncN L N l ≤ cdV T p l) : sdF T n p L N (16 - l) l = none := by
  have h0 : ∀ m, l ≤ m → m < 16 → ctN L m N = 0 := fun m a b => by
    have h1 := plN_s (L := L) (N := N) (l := m) (by omega)
    have h2 := plN_up (L := L) (N := N) (a := m + 1) (by omega) 16 (by omega)
    have h3 := plN_up (L := L) (N := N) (a := l) (by omega) m a
    omega
  have h1 : ∀ d, l + d < 16 → ncN L N (l + d) ≤ cdV T p (l + d) := by
    intro d
    induction d with
    | zero => intro _; exact hc
    | succ d ih =>
      intro h
      have a := ih (by omega)
      have b := h0 (l + d) (by omega) (by omega)
      show ncN L N (l + d + 1) ≤ cdV T p (l + d + 1)
      rw [ncN_s (by omega), b]
      show _ ≤ 2 * cdV T p (l + d) + bitT T (p + (l + d))
      omega
  refine sdF_none _ _ (fun m a b => ⟨h0 m a (by omega), ?_⟩)
  have := h1 (m - l) (by omega)
  rw [show l + (m - l) = m by omega] at this
  exact this
theorem sd_found {T : Nat → Int} {n p : Nat} {L : Nat → Nat} {N l k : Nat} (h : sdF T n p L N 15 1 = sdF T n p L N (16 - l) l) (hl : 1 ≤ l ∧ l ≤ 15) (hp : p + l ≤ 8 * n) (hc : ncN L N l ≤ cdV T p l) (hk : k < N) (h1 : L k = l) (h2 : ctN L l k = cdV T p l - ncN L N l) : sdR T n p L N = some (k, p + l) := by
  have h3 := ctN_y (L := L) (l := l) (n := k) h1
  have h4 := ctN_mono (L := L) (l := l) (n := k + 1) N (by omega)
  rw [show 16 - l = (15 - l) + 1 by omega, sdF_y hp (by omega)] at h
  unfold sdR
  rw [h]
  show some (syN L l (cdV T p l - ncN L N l) N, p + l) = _
  rw [syN_is h1 h2 N hk]
theorem sd_step {T : Nat → Int} {n p : Nat} {L : Nat → Nat} {N l m : Nat} (h : sdF T n p L N 15 1 = sdF T n p L N (16 - l) l) (hl : 1 ≤ l ∧ l ≤ 15) (hp : p + l ≤ 8 * n) (hc : ¬ cdV T p l < ncN L N l + ctN L l N) (hm : m = l + 1) : sdF T n p L N 15 1 = sdF T n p L N (16 - m) m := by
  subst hm
  rw [h, show 16 - l = (15 - l) + 1 by omega, sdF_n hp hc]
  rw [show 16 - (l + 1) = 15 - l by omega]
theorem sd_end {T : Nat → Int} {n p : Nat} {L : Nat → Nat} {N l : Nat} (h : sdF T n p L N 15 1 = sdF T n p L N (16 - l) l) (ho : 8 * n < p + l ∨ 16 ≤ l) : sdF T n p L N 15 1 = none := by
  rw [h]
  rcases ho with q | q
  · exact sdF_out q
  · rw [show 16 - l = 0 by omega]; rfl
/-! PRINTED by wip/pack: a symbol read by the class -/
set_option maxRecDepth 4000 in
set_option maxHeartbeats 2000000 in
theorem c_sym_L0 {E : Nat → Nat × (Nat → Int32)} {d : Nat} {Q : ez_Q} {h : ez_H} {p : Nat} (S : zSh h) (hp : p = 15 ∨ p = 22 ∨ p = 29 ∨ p = 36 ∨ p = 43) (hM : zMem h) (hz : 0 ≤ (ez_I h 2 1).toInt ∧ (ez_I h 2 1).toInt ≤ 6000) (hb : aR (ez_I h 3) (ez_I h 2 1).toInt.toNat 0 255) (hpo : 0 ≤ (ez_I h 69 6).toInt ∧ (ez_I h 69 6).toInt ≤ 8 * (ez_I h 2 1).toInt) (hL : aR (ez_I h (p + 1)) 288 0 15) (hct : ctC (ez_I h (p + 3)) (nL (ez_I h (p + 1))) 288) (hcd : (ez_I h p 4).toInt = (plN (nL (ez_I h (p + 1))) 288 16 : Nat)) (hit : itI (ez_I h (p + 4)) (nL (ez_I h (p + 1))) 288 288) (Ke : sdR (tI (ez_I h 3)) (ez_I h 2 1).toInt.toNat (ez_I h 69 6).toInt.toNat (nL (ez_I h (p + 1))) 288 = none → ∀ h2, zW (fun q k => q = 69 ∧ k = 2 ∨ q = 69 ∧ k = 3 ∨ q = 69 ∧ k = 6) (fun _ => False) (fun _ => False) h h2 → Q (.inr 2) (ez_bump h2)) (K : ∀ h2 (x : Int32), zW (fun q k => q = 69 ∧ k = 2 ∨ q = 69 ∧ k = 3 ∨ q = 69 ∧ k = 6) (fun _ => False) (fun _ => False) h h2 → ∀ q : Nat, sdR (tI (ez_I h 3)) (ez_I h 2 1).toInt.toNat (ez_I h 69 6).toInt.toNat (nL (ez_I h (p + 1))) 288 = some (x.toInt.toNat, q) → 0 ≤ x.toInt → (ez_I h2 69 6).toInt = q → Q (.inl (some (.int x))) h2) : ∀ N : Nat, (∀ (h2 : ez_H) (w : Int32) (fi : Int32) (pl : Int32) (l : Int32) (l7 : Option Value) (l8 : Option Value) , zW (fun q k => q = 69 ∧ k = 2 ∨ q = 69 ∧ k = 3 ∨ q = 69 ∧ k = 6) (fun _ => False) (fun _ => False) h h2 → (1 ≤ l.toInt ∧ l.toInt ≤ 16 ∧ w.toInt = (cdV (tI (ez_I h 3)) (ez_I h 69 6).toInt.toNat (l.toInt.toNat - 1) : Nat) ∧ fi.toInt = (ncN (nL (ez_I h (p + 1))) 288 l.toInt.toNat : Nat) ∧ pl.toInt = (plN (nL (ez_I h (p + 1))) 288 l.toInt.toNat : Nat) ∧ (ez_I h2 69 6).toInt = (ez_I h 69 6).toInt + l.toInt - 1 ∧ (ez_I h2 69 6).toInt ≤ 8 * (ez_I h 2 1).toInt ∧ ncN (nL (ez_I h (p + 1))) 288 l.toInt.toNat ≤ (cdV (tI (ez_I h 3)) (ez_I h 69 6).toInt.toNat l.toInt.toNat)) → sdF (tI (ez_I h 3)) (ez_I h 2 1).toInt.toNat (ez_I h 69 6).toInt.toNat (nL (ez_I h (p + 1))) 288 15 1 = sdF (tI (ez_I h 3)) (ez_I h 2 1).toInt.toNat (ez_I h 69 6).toInt.toNat (nL (ez_I h (p + 1))) 288 (16 - l.toInt.toNat) l.toInt.toNat → (100 - l.toInt) < (N : Int) → pw E (d + 2) 141 11 [some (.ref 69), some (.ref 2), some (.ref p), some (.int w), some (.int fi), some (.int pl), some (.int l), l7, l8] [] h2 Q) := by
  intro N
  induction N with
  | zero => exact fun h2 w fi pl l l7 l8  F hinv A_sd hm => absurd hm (by have w_w := z_rng w; have w_fi := z_rng fi; have w_pl := z_rng pl; have w_l := z_rng l; omega)
  | succ N ih =>
    refine fun h2 w fi pl l l7 l8  F hinv A_sd hm => ?_
    · skip
      have w_w := z_rng w
      have w_fi := z_rng fi
      have w_pl := z_rng pl
      have w_l := z_rng l
      have S2 := zW_sh F S
      have hcl := cdV_lt (tI (ez_I h 3)) (ez_I h 69 6).toInt.toNat (l.toInt.toNat - 1)
      have hcp : (2 : Nat) ^ (l.toInt.toNat - 1) ≤ 2 ^ 15 := Nat.pow_le_pow_right (by decide) (by omega)
      have hcn := cdV_n (T := (tI (ez_I h 3))) (p := (ez_I h 69 6).toInt.toNat) (l := l.toInt.toNat) (by omega)
      have hnb := ncN_b (L := (nL (ez_I h (p + 1)))) (l := l.toInt.toNat) (by omega)
      have hns := ncN_s (L := (nL (ez_I h (p + 1)))) (N := 288) (l := l.toInt.toNat) (by omega)
      have hps := plN_s (L := (nL (ez_I h (p + 1)))) (N := 288) (l := l.toInt.toNat) (by omega)
      have hpl := plN_le (nL (ez_I h (p + 1))) l.toInt.toNat 288
      have hcc := ctN_le (nL (ez_I h (p + 1))) l.toInt.toNat 288
      have hb2 := bitT_2 (tI (ez_I h 3)) ((ez_I h 69 6).toInt.toNat + (l.toInt.toNat - 1))
      have hge : l.toInt ≤ 15 → _ := fun q => cdV_ge (T := (tI (ez_I h 3))) (p := (ez_I h 69 6).toInt.toNat) (L := (nL (ez_I h (p + 1)))) (N := 288) (l := l.toInt.toNat) (by omega)
      apply ez_Wp_in
      show ez_gw _ _ _ _ _ _ (cz_141) _ _ _ _ _
      refine gw_skip _ ?_
      have r1 := z_rng (ez_I h2 69 2)
      have r2 := z_rng (ez_I h2 69 3)
      have r3 := z_rng (ez_I h2 69 6)
      refine gw_ld rfl rfl ?_
      refine z_C (m := 15) rfl rfl (fun x4 ex4 => ?_)
      refine z_b2 (fun c5 => ?_) (fun c5 => ?_)
      · have c5 : x4.toInt < l.toInt := c5
        refine gw_skip _ ?_
        refine gw_ld rfl rfl ?_
        refine z_C (m := 7) rfl rfl (fun x6 ex6 => ?_)
        refine z_cl rfl rfl rfl rfl rfl rfl rfl rfl rfl rfl rfl (zT S2 (by decide) rfl) ?_
        exact c_fail (i := x6) S2 (zMw F hM) (by omega) (fun hh FF => Ke (sdR_no (sd_end A_sd (.inr (by omega)))) hh (zW_tr F FF)) trivial
      · have c5 : ¬ (x4.toInt < l.toInt) := c5
        refine gw_ld rfl rfl ?_
        refine gw_ld rfl rfl ?_
        have r7 := z_rng (ez_I h p 4)
        refine z_gI2 (by decide) ((zCode S2 hp).1) (zW_f F (fun c => c) (by omega)) ?_
        refine z_b2 (fun c8 => ?_) (fun c8 => ?_)
        · have c8 : ((ez_I h p 4)).toInt ≤ pl.toInt := c8
          refine gw_skip _ ?_
          refine gw_ld rfl rfl ?_
          refine z_C (m := 7) rfl rfl (fun x9 ex9 => ?_)
          refine z_cl rfl rfl rfl rfl rfl rfl rfl rfl rfl rfl rfl (zT S2 (by decide) rfl) ?_
          exact c_fail (i := x9) S2 (zMw F hM) (by omega) (fun hh FF => Ke (sdR_no (A_sd.trans (sd_done (by omega) (by omega) (by omega)))) hh (zW_tr F FF)) trivial
        · have c8 : ¬ (((ez_I h p 4)).toInt ≤ pl.toInt) := c8
          refine gw_ld rfl rfl ?_
          refine z_C (m := 1) rfl rfl (fun x10 ex10 => ?_)
          refine z_2 rfl (fun x11 ex11 => ?_)
          have rx11 := z_rng x11
          have vx11 := n_shl (n := 1) (by omega) (by decide) (by omega) (by omega) ex11
          rw [show (2 : Int) ^ 1 = 2 from rfl] at vx11
          refine gw_ld rfl rfl ?_
          refine gw_ld rfl rfl ?_
          refine z_C (m := 1) rfl rfl (fun x12 ex12 => ?_)
          refine z_cl rfl rfl rfl rfl rfl rfl rfl rfl rfl rfl rfl (zT S2 (by decide) rfl) ?_
          refine c_tb (n := x12) S2 (zMw F hM) (by rw [(show ez_I h2 2 1 = ez_I h 2 1 from zW_f F (by decide) (by decide))]; exact hz) (by rw [(show ez_I h2 2 1 = ez_I h 2 1 from zW_f F (by decide) (by decide)), (show ez_I h2 3 = ez_I h 3 from zW_fn F 3 (by decide) (fun k c => by omega))]; exact hb) (by rw [(show ez_I h2 2 1 = ez_I h 2 1 from zW_f F (by decide) (by decide))]; omega) (by omega) (by rw [(show ez_I h2 2 1 = ez_I h 2 1 from zW_f F (by decide) (by decide))]; exact fun q hh FF => Ke (sdR_no (sd_end A_sd (.inl (by omega)))) hh (zW_tr F FF)) (fun h13 x15 F14 k16 k17 k18 => ?_)
          rw [(show ez_I h2 3 = ez_I h 3 from zW_fn F 3 (by decide) (fun k c => by omega)), show x12.toInt.toNat = 1 by omega, vB_1, show (ez_I h2 69 6).toInt.toNat = (ez_I h 69 6).toInt.toNat + (l.toInt.toNat - 1) by omega] at k17
          rw [(show ez_I h2 2 1 = ez_I h 2 1 from zW_f F (by decide) (by decide))] at k16
          have rx15 := z_rng x15
          have S19 := zW_sh F14 S2
          have F20 := zW_tr F (zW_mono F14 (fun q k hk => by first | omega | exact False.elim hk) (fun q hk => by first | omega | exact False.elim hk) (fun q hk => by first | omega | exact False.elim hk))
          have r21 := z_rng (ez_I h13 69 2)
          have r22 := z_rng (ez_I h13 69 3)
          have r23 := z_rng (ez_I h13 69 6)
          refine z_2 rfl (fun x24 ex24 => ?_)
          have rx24 := z_rng x24
          have vx24 := n_or (n := 1) (a := w.toInt) (by omega) (by omega) (by omega) (by omega) ex24
          refine gw_st rfl rfl rfl ?_
          show ez_gw _ _ _ _ _ _ _ _ [some (.ref 69), some (.ref 2), some (.ref p), some (.int x24), some (.int fi), some (.int pl), some (.int l), l7, l8] _ _ _
          refine gw_ld rfl rfl ?_
          refine z_gR (q := (p + 3)) ((zCode S19 hp).1) ((zCode S19 hp).2.1.2.2.1) (by omega) ?_
          refine gw_ld rfl rfl ?_
          refine z_iaV (n := 16) ((zCode S19 hp).2.2.1.2.2.1) ((zCode S19 hp).2.2.2.2.2.1) (by omega) (zW_f F20 (fun c => c) (by omega)) ?_
          generalize ex25 : ez_I h (p + 3) l.toInt.toNat = x25
          have rx25 := z_rng x25
          have yx25 := hct.2 l.toInt.toNat (by omega) (by omega)
          rw [ex25] at yx25
          refine gw_st rfl rfl rfl ?_
          show ez_gw _ _ _ _ _ _ _ _ [some (.ref 69), some (.ref 2), some (.ref p), some (.int x24), some (.int fi), some (.int pl), some (.int l), some (.int x25), l8] _ _ _
          refine gw_ld rfl rfl ?_
          refine gw_ld rfl rfl ?_
          refine z_add (by omega) (fun x26 ex26 => ?_)
          refine gw_ld rfl rfl ?_
          refine z_sub (by omega) (fun x27 ex27 => ?_)
          refine gw_st rfl rfl rfl ?_
          show ez_gw _ _ _ _ _ _ _ _ [some (.ref 69), some (.ref 2), some (.ref p), some (.int x24), some (.int fi), some (.int pl), some (.int l), some (.int x25), some (.int x27)] _ _ _
          refine gw_ld rfl rfl ?_
          refine gw_ld rfl rfl ?_
          refine z_sub (by omega) (fun x28 ex28 => ?_)
          refine gw_ld rfl rfl ?_
          refine z_b2 (fun c29 => ?_) (fun c29 => ?_)
          · have c29 : x25.toInt ≤ x28.toInt := c29
            refine gw_skip _ ?_
            refine gw_ld rfl rfl ?_
            refine gw_ld rfl rfl ?_
            refine z_add (by omega) (fun x30 ex30 => ?_)
            refine gw_st rfl rfl rfl ?_
            show ez_gw _ _ _ _ _ _ _ _ [some (.ref 69), some (.ref 2), some (.ref p), some (.int x24), some (.int fi), some (.int x30), some (.int l), some (.int x25), some (.int x27)] _ _ _
            refine gw_ld rfl rfl ?_
            refine gw_ld rfl rfl ?_
            refine z_add (by omega) (fun x31 ex31 => ?_)
            refine z_C (m := 1) rfl rfl (fun x32 ex32 => ?_)
            refine z_2 rfl (fun x33 ex33 => ?_)
            have rx33 := z_rng x33
            have vx33 := n_shl (n := 1) (by omega) (by decide) (by omega) (by omega) ex33
            rw [show (2 : Int) ^ 1 = 2 from rfl] at vx33
            refine gw_st rfl rfl rfl ?_
            show ez_gw _ _ _ _ _ _ _ _ [some (.ref 69), some (.ref 2), some (.ref p), some (.int x24), some (.int x33), some (.int x30), some (.int l), some (.int x25), some (.int x27)] _ _ _
            refine z_inc rfl (by rw [show (1 : Int32).toInt = 1 from rfl]; omega) (fun x34 ex34 => ?_)
            rw [show (1 : Int32).toInt = 1 from rfl] at ex34
            show ez_gw _ _ _ _ _ _ _ _ [some (.ref 69), some (.ref 2), some (.ref p), some (.int x24), some (.int x33), some (.int x30), some (.int x34), some (.int x25), some (.int x27)] _ _ _
            refine z_go ?_
            exact ih h13 x24 x33 x30 x34 (some (.int x25)) (some (.int x27)) F20 (⟨by omega, by omega, by rw [show x34.toInt.toNat - 1 = l.toInt.toNat by omega]; omega, by rw [show x34.toInt.toNat = l.toInt.toNat + 1 by omega]; omega, by rw [show x34.toInt.toNat = l.toInt.toNat + 1 by omega]; omega, by omega, by omega, by rw [show x34.toInt.toNat = l.toInt.toNat + 1 by omega]; exact hge (by omega) (by omega)⟩) (sd_step A_sd (by omega) (by omega) (by omega) (by omega)) (by omega)
          · have c29 : ¬ (x25.toInt ≤ x28.toInt) := c29
            obtain ⟨kk, hk1, hk2, hk3⟩ := ctN_ex (L := (nL (ez_I h (p + 1)))) (l := l.toInt.toNat) (i := (cdV (tI (ez_I h 3)) (ez_I h 69 6).toInt.toNat l.toInt.toNat) - ncN (nL (ez_I h (p + 1))) 288 l.toInt.toNat) 288 (by omega)
            have hpc := pcN_288 (L := (nL (ez_I h (p + 1)))) (N := 288) hk1 (by omega)
            have hpe : pcN (nL (ez_I h (p + 1))) 288 kk = plN (nL (ez_I h (p + 1))) 288 l.toInt.toNat + ctN (nL (ez_I h (p + 1))) l.toInt.toNat kk := by unfold pcN; rw [hk2]
            refine gw_ld rfl rfl ?_
            refine z_b1 (fun c35 => ?_) (fun c35 => ?_)
            · have c35 : x27.toInt < 0 := c35
              refine gw_skip _ ?_
              exfalso; omega
            · have c35 : ¬ (x27.toInt < 0) := c35
              refine gw_ld rfl rfl ?_
              refine z_C (m := 288) rfl rfl (fun x36 ex36 => ?_)
              refine z_b2 (fun c37 => ?_) (fun c37 => ?_)
              · have c37 : x36.toInt ≤ x27.toInt := c37
                refine gw_skip _ ?_
                exfalso; omega
              · have c37 : ¬ (x36.toInt ≤ x27.toInt) := c37
                refine gw_ld rfl rfl ?_
                refine z_gR (q := (p + 4)) ((zCode S19 hp).1) ((zCode S19 hp).2.1.2.2.2.1) (by omega) ?_
                refine gw_ld rfl rfl ?_
                refine z_iaV (n := 288) ((zCode S19 hp).2.2.1.2.2.2.1) ((zCode S19 hp).2.2.2.2.2.2.1) (by omega) (zW_f F20 (fun c => c) (by omega)) ?_
                generalize ex38 : ez_I h (p + 4) x27.toInt.toNat = x38
                have rx38 := z_rng x38
                refine z_ri ?_
                have hkt := hit kk hk1 (by omega)
                rw [hpe, show plN (nL (ez_I h (p + 1))) 288 l.toInt.toNat + ctN (nL (ez_I h (p + 1))) l.toInt.toNat kk = x27.toInt.toNat by omega, ex38] at hkt
                exact K _ x38 F20 ((ez_I h 69 6).toInt.toNat + l.toInt.toNat) (by rw [show x38.toInt.toNat = kk by omega]; exact sd_found A_sd (by omega) (by omega) (by omega) hk1 hk2 hk3) (by omega) (by omega)
set_option maxRecDepth 4000 in
set_option maxHeartbeats 2000000 in
theorem c_sym {E : Nat → Nat × (Nat → Int32)} {d : Nat} {Q : ez_Q} {h : ez_H} {p : Nat} (S : zSh h) (hp : p = 15 ∨ p = 22 ∨ p = 29 ∨ p = 36 ∨ p = 43) (hM : zMem h) (hz : 0 ≤ (ez_I h 2 1).toInt ∧ (ez_I h 2 1).toInt ≤ 6000) (hb : aR (ez_I h 3) (ez_I h 2 1).toInt.toNat 0 255) (hpo : 0 ≤ (ez_I h 69 6).toInt ∧ (ez_I h 69 6).toInt ≤ 8 * (ez_I h 2 1).toInt) (hL : aR (ez_I h (p + 1)) 288 0 15) (hct : ctC (ez_I h (p + 3)) (nL (ez_I h (p + 1))) 288) (hcd : (ez_I h p 4).toInt = (plN (nL (ez_I h (p + 1))) 288 16 : Nat)) (hit : itI (ez_I h (p + 4)) (nL (ez_I h (p + 1))) 288 288) (Ke : sdR (tI (ez_I h 3)) (ez_I h 2 1).toInt.toNat (ez_I h 69 6).toInt.toNat (nL (ez_I h (p + 1))) 288 = none → ∀ h2, zW (fun q k => q = 69 ∧ k = 2 ∨ q = 69 ∧ k = 3 ∨ q = 69 ∧ k = 6) (fun _ => False) (fun _ => False) h h2 → Q (.inr 2) (ez_bump h2)) (K : ∀ h2 (x : Int32), zW (fun q k => q = 69 ∧ k = 2 ∨ q = 69 ∧ k = 3 ∨ q = 69 ∧ k = 6) (fun _ => False) (fun _ => False) h h2 → ∀ q : Nat, sdR (tI (ez_I h 3)) (ez_I h 2 1).toInt.toNat (ez_I h 69 6).toInt.toNat (nL (ez_I h (p + 1))) 288 = some (x.toInt.toNat, q) → 0 ≤ x.toInt → (ez_I h2 69 6).toInt = q → Q (.inl (some (.int x))) h2) : pw E (d + 2) 141 0 [some (.ref 69), some (.ref 2), some (.ref p), none, none, none, none, none, none] [] h Q := by
  have F := zW_refl (fun q k => q = 69 ∧ k = 2 ∨ q = 69 ∧ k = 3 ∨ q = 69 ∧ k = 6) (fun _ => False) (fun _ => False) h
  apply ez_Wp_in
  show ez_gw _ _ _ _ _ _ (cz_141) _ _ _ _ _
  refine gw_skip _ ?_
  have r1 := z_rng (ez_I h 69 2)
  have r2 := z_rng (ez_I h 69 3)
  have r3 := z_rng (ez_I h 69 6)
  refine z_C (m := 0) rfl rfl (fun x4 ex4 => ?_)
  refine gw_st rfl rfl rfl ?_
  show ez_gw _ _ _ _ _ _ _ _ [some (.ref 69), some (.ref 2), some (.ref p), some (.int x4), none, none, none, none, none] _ _ _
  refine z_C (m := 0) rfl rfl (fun x5 ex5 => ?_)
  refine gw_st rfl rfl rfl ?_
  show ez_gw _ _ _ _ _ _ _ _ [some (.ref 69), some (.ref 2), some (.ref p), some (.int x4), some (.int x5), none, none, none, none] _ _ _
  refine z_C (m := 0) rfl rfl (fun x6 ex6 => ?_)
  refine gw_st rfl rfl rfl ?_
  show ez_gw _ _ _ _ _ _ _ _ [some (.ref 69), some (.ref 2), some (.ref p), some (.int x4), some (.int x5), some (.int x6), none, none, none] _ _ _
  refine z_C (m := 1) rfl rfl (fun x7 ex7 => ?_)
  refine gw_st rfl rfl rfl ?_
  show ez_gw _ _ _ _ _ _ _ _ [some (.ref 69), some (.ref 2), some (.ref p), some (.int x4), some (.int x5), some (.int x6), some (.int x7), none, none] _ _ _
  exact ez_Wp_at ((c_sym_L0 (p := p) S hp hM hz hb hpo hL hct hcd hit Ke K (((100 - x7.toInt)).toNat + 1)) h x4 x5 x6 x7 (none) (none) F (⟨by omega, by omega, by rw [show x7.toInt.toNat - 1 = 0 by omega]; show _ = ((0 : Nat) : Int); omega, by rw [show x7.toInt.toNat = 1 by omega]; show _ = ((0 : Nat) : Int); omega, by rw [show x7.toInt.toNat = 1 by omega]; show _ = ((0 : Nat) : Int); omega, by omega, by omega, by rw [show x7.toInt.toNat = 1 by omega]; exact Nat.zero_le _⟩) ((by rw [show x7.toInt.toNat = 1 by omega])) (by omega)) rfl
end
section
/-! a symbol read by the model -/
theorem ctC_w {h h2 : ez_H} {c n m : Nat} {o y : Int32} {L : Nat → Nat} (A : ctC (ez_I h c) L n) (e : h2 = ez_setI h c 0 y) (h0 : L n = 0) (eo : ez_I h c 0 = o) (hy : y.toInt = o.toInt) (hm : m = n + 1) : ctC (ez_I h2 c) L m := by
  subst hm
  refine ⟨by rw [zI_eq e, hy, ← eo]; exact A.1, fun l a b => ?_⟩
  rw [zI_ne e (by omega), A.2 l a b, ctN_n (by omega)]
/-- one code alone, of length 1: not found with one bit, it is never found -/
theorem sd_one {T : Nat → Int} {n p : Nat} {L : Nat → Nat} {N l m : Nat} (h : sdF T n p L N 15 1 = sdF T n p L N (16 - m) m) (hl : 1 ≤ l ∧ l ≤ 15) (hm : m = l + 1) (hone : plN L N 16 = 1 → ctN L 1 N = 1) (h1 : plN L N 16 = 1) (hc : ncN L N m ≤ cdV T p m) : sdR T n p L N = none := by
  refine sdR_no (h.trans (sd_done (by omega) ?_ hc))
  have a := plN_s (L := L) (N := N) (l := 1) (by omega)
  have b := plN_up (L := L) (N := N) (a := 2) (by omega) m (by omega)
  have c : plN L N 1 = 0 := rfl
  have d := hone h1
  have e : plN L N 2 = plN L N 1 + ctN L 1 N := a
  omega
theorem sd_zero {T : Nat → Int} {n p : Nat} {L : Nat → Nat} {N : Nat} (h : plN L N 16 = 0) : sdR T n p L N = none := sdR_no (sd_done (l := 1) (by omega) (by omega) (Nat.zero_le _))
/-! PRINTED by wip/pack: a symbol read by the model -/
set_option maxRecDepth 4000 in
set_option maxHeartbeats 2000000 in
theorem d_wrong {E : Nat → Nat × (Nat → Int32)} {d : Nat} {Q : ez_Q} {h : ez_H} {n : Int32} (S : zSh h)  (K : ∀ h2, zW (fun q k => q = 71 ∧ k = 61) (fun _ => False) (fun _ => False) h h2 → ((ez_I h 71 61).toInt = 0 → (ez_I h2 71 61).toInt = n.toInt) → ((ez_I h 71 61).toInt ≠ 0 → (ez_I h2 71 61).toInt = (ez_I h 71 61).toInt) → Q (.inl none) h2) : pw E d 52 0 [some (.ref 71), some (.int n)] [] h Q := by
  have gn := z_rng n
  have F := zW_refl (fun q k => q = 71 ∧ k = 61) (fun _ => False) (fun _ => False) h
  apply ez_Wp_in
  show ez_gw _ _ _ _ _ _ (cz_52) _ _ _ _ _
  refine gw_skip _ ?_
  have r1 := z_rng (ez_I h 71 61)
  refine gw_ld rfl rfl ?_
  refine z_gI2 (by decide) (zT S (by decide) rfl) (rfl) ?_
  refine z_b1 (fun c2 => ?_) (fun c2 => ?_)
  · have c2 : ((ez_I h 71 61)).toInt ≠ 0 := c2
    refine gw_skip _ ?_
    refine z_rv ?_
    exact K _ F (fun q => by omega) (fun q => by omega)
  · have c2 : ¬ (((ez_I h 71 61)).toInt ≠ 0) := c2
    refine gw_ld rfl rfl ?_
    refine gw_ld rfl rfl ?_
    refine z_pI (zT S (by decide) rfl) (fun h3 e4 => ?_)
    have S5 := zSh_set S e4
    have F6 := zW_setF F e4 (by omega)
    have f7 : ez_I h3 71 61 = n := zI_eq e4
    refine z_rv ?_
    have t8 := congrArg Int32.toInt (f7)
    exact K _ F6 (fun q => by omega) (fun q => by omega)
set_option maxRecDepth 4000 in
set_option maxHeartbeats 2000000 in
theorem d_symOf_L0 {E : Nat → Nat × (Nat → Int32)} {d : Nat} {Q : ez_Q} {h : ez_H} {u : Nat} {n : Int32} {l : Int32} {m : Int32} (S : zSh h) {nu kk : Nat} (hu : zA u nu) (hk : kk < nu ∧ nu ≤ 1000) (hL : aR (ez_I h u) (kk + 1) 0 15) (h1 : (nL (ez_I h u)) kk = l.toInt.toNat) (h2 : ctN (nL (ez_I h u)) l.toInt.toNat kk = m.toInt.toNat) (hl : 1 ≤ l.toInt) (hm : 0 ≤ m.toInt) (K : ∀ x : Int32, x.toInt = (kk : Nat) → Q (.inl (some (.int x))) h) : ∀ N : Nat, (∀ (h2 : ez_H) (lf : Int32) (k : Int32) , zW (fun _ _ => False) (fun _ => False) (fun _ => False) h h2 → (0 ≤ k.toInt ∧ k.toInt ≤ kk ∧ lf.toInt = m.toInt - (ctN (nL (ez_I h u)) l.toInt.toNat k.toInt.toNat : Nat)) → (2000 - k.toInt) < (N : Int) → pw E d 55 6 [some (.ref u), some (.int n), some (.int l), some (.int m), some (.int lf), some (.int k)] [] h2 Q) := by
  intro N
  induction N with
  | zero => exact fun h2 lf k  F hinv  hm => absurd hm (by have w_lf := z_rng lf; have w_k := z_rng k; have gn := z_rng n; have gl := z_rng l; have gm := z_rng m; omega)
  | succ N ih =>
    refine fun h2 lf k  F hinv  hm => ?_
    · skip
      have w_lf := z_rng lf
      have w_k := z_rng k
      have gn := z_rng n
      have gl := z_rng l
      have gm := z_rng m
      have S2 := zW_sh F S
      have hmo := ctN_mono (L := (nL (ez_I h u))) (l := l.toInt.toNat) (n := k.toInt.toNat) kk (by omega)
      apply ez_Wp_in
      show ez_gw _ _ _ _ _ _ (cz_55) _ _ _ _ _
      refine gw_skip _ ?_
      refine gw_ld rfl rfl ?_
      refine gw_ld rfl rfl ?_
      refine z_iaV (n := nu) ((hu _ S2).1) ((hu _ S2).2) (by omega) (zW_f F (fun c => c) (fun c => c)) ?_
      generalize ex1 : ez_I h u k.toInt.toNat = x1
      have rx1 := z_rng x1
      have yx1 := hL k.toInt.toNat (by omega)
      rw [ex1] at yx1
      refine gw_ld rfl rfl ?_
      refine z_b2 (fun c2 => ?_) (fun c2 => ?_)
      · have c2 : x1.toInt ≠ l.toInt := c2
        refine gw_skip _ ?_
        refine gw_ld rfl rfl ?_
        refine gw_ld rfl rfl ?_
        refine gw_ld rfl rfl ?_
        refine z_iaV (n := nu) ((hu _ S2).1) ((hu _ S2).2) (by omega) ((zW_f F (fun c => c) (fun c => c)).trans ex1) ?_
        refine gw_ld rfl rfl ?_
        refine z_b2 (fun c4 => ?_) (fun c4 => ?_)
        · have c4 : x1.toInt ≠ l.toInt := c4
          refine gw_skip _ ?_
          refine z_C (m := 0) rfl rfl (fun x5 ex5 => ?_)
          refine z_sub (by omega) (fun x6 ex6 => ?_)
          refine gw_st rfl rfl rfl ?_
          show ez_gw _ _ _ _ _ _ _ _ [some (.ref u), some (.int n), some (.int l), some (.int m), some (.int x6), some (.int k)] _ _ _
          refine z_inc rfl (by rw [show (1 : Int32).toInt = 1 from rfl]; omega) (fun x7 ex7 => ?_)
          rw [show (1 : Int32).toInt = 1 from rfl] at ex7
          show ez_gw _ _ _ _ _ _ _ _ [some (.ref u), some (.int n), some (.int l), some (.int m), some (.int x6), some (.int x7)] _ _ _
          refine z_go ?_
          exact ih h2 x6 x7 F (by rw [show x7.toInt.toNat = k.toInt.toNat + 1 by omega]; have hyl : (nL (ez_I h u)) k.toInt.toNat ≠ l.toInt.toNat := (by show (ez_I h u k.toInt.toNat).toInt.toNat ≠ _; rw [ex1]; omega); rw [ctN_n hyl]; have : k.toInt.toNat ≠ kk := (fun q => by rw [q] at hyl; exact hyl h1); omega)  (by omega)
        · have c4 : ¬ (x1.toInt ≠ l.toInt) := c4
          exfalso; omega
      · have c2 : ¬ (x1.toInt ≠ l.toInt) := c2
        refine gw_ld rfl rfl ?_
        refine z_b1 (fun c8 => ?_) (fun c8 => ?_)
        · have c8 : lf.toInt ≤ 0 := c8
          refine gw_skip _ ?_
          refine gw_ld rfl rfl ?_
          refine z_ri ?_
          have hyl : (nL (ez_I h u)) k.toInt.toNat = l.toInt.toNat := by show (ez_I h u k.toInt.toNat).toInt.toNat = _; rw [ex1]; omega
          have hyc := ctN_y (L := (nL (ez_I h u))) (l := l.toInt.toNat) (n := k.toInt.toNat) hyl
          have hym : k.toInt.toNat < kk → _ := fun q => ctN_mono (L := (nL (ez_I h u))) (l := l.toInt.toNat) (n := k.toInt.toNat + 1) kk (by omega)
          exact zW_Q F (K _ (by omega))
        · have c8 : ¬ (lf.toInt ≤ 0) := c8
          refine gw_ld rfl rfl ?_
          refine gw_ld rfl rfl ?_
          refine gw_ld rfl rfl ?_
          refine z_iaV (n := nu) ((hu _ S2).1) ((hu _ S2).2) (by omega) ((zW_f F (fun c => c) (fun c => c)).trans ex1) ?_
          refine gw_ld rfl rfl ?_
          refine z_b2 (fun c10 => ?_) (fun c10 => ?_)
          · have c10 : x1.toInt ≠ l.toInt := c10
            exfalso; omega
          · have c10 : ¬ (x1.toInt ≠ l.toInt) := c10
            refine z_C (m := 1) rfl rfl (fun x11 ex11 => ?_)
            refine z_go ?_
            refine gw_skip _ ?_
            refine z_sub (by omega) (fun x12 ex12 => ?_)
            refine gw_st rfl rfl rfl ?_
            show ez_gw _ _ _ _ _ _ _ _ [some (.ref u), some (.int n), some (.int l), some (.int m), some (.int x12), some (.int k)] _ _ _
            refine z_inc rfl (by rw [show (1 : Int32).toInt = 1 from rfl]; omega) (fun x13 ex13 => ?_)
            rw [show (1 : Int32).toInt = 1 from rfl] at ex13
            show ez_gw _ _ _ _ _ _ _ _ [some (.ref u), some (.int n), some (.int l), some (.int m), some (.int x12), some (.int x13)] _ _ _
            refine z_go ?_
            exact ih h2 x12 x13 F (by rw [show x13.toInt.toNat = k.toInt.toNat + 1 by omega]; have hyl : (nL (ez_I h u)) k.toInt.toNat = l.toInt.toNat := (by show (ez_I h u k.toInt.toNat).toInt.toNat = _; rw [ex1]; omega); rw [ctN_y hyl]; have : k.toInt.toNat ≠ kk := (fun q => by rw [q] at hinv; omega); omega)  (by omega)
set_option maxRecDepth 4000 in
set_option maxHeartbeats 2000000 in
theorem d_symOf {E : Nat → Nat × (Nat → Int32)} {d : Nat} {Q : ez_Q} {h : ez_H} {u : Nat} {n : Int32} {l : Int32} {m : Int32} (S : zSh h) {nu kk : Nat} (hu : zA u nu) (hk : kk < nu ∧ nu ≤ 1000) (hL : aR (ez_I h u) (kk + 1) 0 15) (h1 : (nL (ez_I h u)) kk = l.toInt.toNat) (h2 : ctN (nL (ez_I h u)) l.toInt.toNat kk = m.toInt.toNat) (hl : 1 ≤ l.toInt) (hm : 0 ≤ m.toInt) (K : ∀ x : Int32, x.toInt = (kk : Nat) → Q (.inl (some (.int x))) h) : pw E d 55 0 [some (.ref u), some (.int n), some (.int l), some (.int m), none, none] [] h Q := by
  have gn := z_rng n
  have gl := z_rng l
  have gm := z_rng m
  have F := zW_refl (fun _ _ => False) (fun _ => False) (fun _ => False) h
  apply ez_Wp_in
  show ez_gw _ _ _ _ _ _ (cz_55) _ _ _ _ _
  refine gw_skip _ ?_
  refine gw_ld rfl rfl ?_
  refine gw_st rfl rfl rfl ?_
  show ez_gw _ _ _ _ _ _ _ _ [some (.ref u), some (.int n), some (.int l), some (.int m), some (.int m), none] _ _ _
  refine z_C (m := 0) rfl rfl (fun x1 ex1 => ?_)
  refine gw_st rfl rfl rfl ?_
  show ez_gw _ _ _ _ _ _ _ _ [some (.ref u), some (.int n), some (.int l), some (.int m), some (.int m), some (.int x1)] _ _ _
  exact ez_Wp_at ((d_symOf_L0 (u := u) (n := n) (l := l) (m := m) S hu hk hL h1 h2 hl hm K (((2000 - x1.toInt)).toNat + 1)) h m x1 F (⟨by omega, by omega, by rw [show x1.toInt.toNat = 0 by omega]; show _ = _ - ((0 : Nat) : Int); omega⟩)  (by omega)) rfl

end
section
/-! PRINTED by wip/pack: codes kept; the row told by the model -/
set_option maxRecDepth 4000 in
set_option maxHeartbeats 2000000 in
theorem c_keep {E : Nat → Nat × (Nat → Int32)} {d : Nat} {Q : ez_Q} {h : ez_H} {k : Int32} (S : zSh h) (hk : 0 ≤ k.toInt ∧ k.toInt < (ez_I h 55 2).toInt ∧ (ez_I h 55 2).toInt ≤ 10) (K : ∀ h2, zW (fun _ _ => False) (fun q => q = 57) (fun _ => False) h h2 → (∀ s, s < 286 → ez_I h2 57 ((335 * k.toInt).toNat + s) = ez_I h 30 s) → (∀ s, s < 30 → ez_I h2 57 ((335 * k.toInt).toNat + 286 + s) = ez_I h 37 s) → (∀ s, s < 19 → ez_I h2 57 ((335 * k.toInt).toNat + 316 + s) = ez_I h 44 s) → (∀ j, (j < (335 * k.toInt).toNat ∨ (335 * k.toInt).toNat + 335 ≤ j) → ez_I h2 57 j = ez_I h 57 j) → Q (.inl none) h2) : pw E (d + 1) 77 0 [some (.ref 55), some (.int k), some (.ref 14), none] [] h Q := by
  have gk := z_rng k
  have F := zW_refl (fun _ _ => False) (fun q => q = 57) (fun _ => False) h
  apply ez_Wp_in
  show ez_gw _ _ _ _ _ _ (cz_77) _ _ _ _ _
  refine gw_skip _ ?_
  refine gw_ld rfl rfl ?_
  refine gw_ld rfl rfl ?_
  refine z_cl rfl rfl rfl rfl rfl rfl rfl rfl rfl rfl rfl (zT S (by decide) rfl) ?_
  refine c_bhas S (k := k) (fun x1 k2 k3 k4 => ?_)
  have rx1 := z_rng x1
  refine z_b1 (fun c5 => ?_) (fun c5 => ?_)
  · have c5 : x1.toInt = 0 := c5
    refine gw_skip _ ?_
    refine z_rv ?_
    exfalso; omega
  · have c5 : ¬ (x1.toInt = 0) := c5
    refine gw_ld rfl rfl ?_
    refine z_C (m := 335) rfl rfl (fun x6 ex6 => ?_)
    refine z_mulR (c := 335) ex6 (by omega) (fun x7 ex7 => ?_)
    refine gw_st rfl rfl rfl ?_
    show ez_gw _ _ _ _ _ _ _ _ [some (.ref 55), some (.int k), some (.ref 14), some (.int x7)] _ _ _
    refine gw_ld rfl rfl ?_
    refine z_gR (q := 29) (zT S (by decide) rfl) (zRf S (by decide) (by decide) rfl) (by decide) ?_
    refine z_gR (q := 30) (zT S (by decide) rfl) (zRf S (by decide) (by decide) rfl) (by decide) ?_
    refine z_C (m := 0) rfl rfl (fun x8 ex8 => ?_)
    refine gw_ld rfl rfl ?_
    refine z_gR (q := 57) (zT S (by decide) rfl) (zRf S (by decide) (by decide) rfl) (by decide) ?_
    refine gw_ld rfl rfl ?_
    refine z_C (m := 286) rfl rfl (fun x9 ex9 => ?_)
    refine z_ac (n := 288) (m := 3350) rfl (zT S (by decide) rfl) (zT S (by decide) rfl) (zN S (by decide) rfl) (zN S (by decide) rfl) (by omega) (fun h10 e11 => ?_)
    have S12 := zSh_row S e11
    have F13 := zW_row F e11 (by omega)
    have A14 : (∀ s, s < 286 → ez_I h10 57 ((335 * k.toInt).toNat + s) = ez_I h 30 s) := fun s hs => by have q := (zIr_cp e11).1 s (by omega); rw [show x7.toInt.toNat + s = (335 * k.toInt).toNat + s by omega, show x8.toInt.toNat + s = s by omega, (show ez_I h 30 = ez_I h 30 from zW_fn F 30 (by decide) (fun k c => by omega))] at q; exact q
    have A15 : (∀ j, (j < (335 * k.toInt).toNat ∨ (335 * k.toInt).toNat + 335 ≤ j) → ez_I h10 57 j = ez_I h 57 j) := fun j hj => (zIr_cp e11).2 j (by omega)
    refine gw_ld rfl rfl ?_
    refine z_gR (q := 36) (zT S12 (by decide) rfl) (zRf S12 (by decide) (by decide) rfl) (by decide) ?_
    refine z_gR (q := 37) (zT S12 (by decide) rfl) (zRf S12 (by decide) (by decide) rfl) (by decide) ?_
    refine z_C (m := 0) rfl rfl (fun x16 ex16 => ?_)
    refine gw_ld rfl rfl ?_
    refine z_gR (q := 57) (zT S12 (by decide) rfl) (zRf S12 (by decide) (by decide) rfl) (by decide) ?_
    refine gw_ld rfl rfl ?_
    refine z_C (m := 286) rfl rfl (fun x17 ex17 => ?_)
    refine z_add (by omega) (fun x18 ex18 => ?_)
    refine z_C (m := 30) rfl rfl (fun x19 ex19 => ?_)
    refine z_ac (n := 288) (m := 3350) rfl (zT S12 (by decide) rfl) (zT S12 (by decide) rfl) (zN S12 (by decide) rfl) (zN S12 (by decide) rfl) (by omega) (fun h20 e21 => ?_)
    have S22 := zSh_row S12 e21
    have F23 := zW_row F13 e21 (by omega)
    have A24 : (∀ s, s < 286 → ez_I h20 57 ((335 * k.toInt).toNat + s) = ez_I h 30 s) := fun s hs => ((zIr_cp e21).2 _ (by omega)).trans (A14 s hs)
    have A25 : (∀ j, (j < (335 * k.toInt).toNat ∨ (335 * k.toInt).toNat + 335 ≤ j) → ez_I h20 57 j = ez_I h 57 j) := fun s hs => ((zIr_cp e21).2 _ (by omega)).trans (A15 s hs)
    have A26 : (∀ s, s < 30 → ez_I h20 57 ((335 * k.toInt).toNat + 286 + s) = ez_I h 37 s) := fun s hs => by have q := (zIr_cp e21).1 s (by omega); rw [show x18.toInt.toNat + s = (335 * k.toInt).toNat + 286 + s by omega, show x16.toInt.toNat + s = s by omega, (show ez_I h10 37 = ez_I h 37 from zW_fn F13 37 (by decide) (fun k c => by omega))] at q; exact q
    clear A14
    clear A15
    refine gw_ld rfl rfl ?_
    refine z_gR (q := 43) (zT S22 (by decide) rfl) (zRf S22 (by decide) (by decide) rfl) (by decide) ?_
    refine z_gR (q := 44) (zT S22 (by decide) rfl) (zRf S22 (by decide) (by decide) rfl) (by decide) ?_
    refine z_C (m := 0) rfl rfl (fun x27 ex27 => ?_)
    refine gw_ld rfl rfl ?_
    refine z_gR (q := 57) (zT S22 (by decide) rfl) (zRf S22 (by decide) (by decide) rfl) (by decide) ?_
    refine gw_ld rfl rfl ?_
    refine z_C (m := 286) rfl rfl (fun x28 ex28 => ?_)
    refine z_add (by omega) (fun x29 ex29 => ?_)
    refine z_C (m := 30) rfl rfl (fun x30 ex30 => ?_)
    refine z_add (by omega) (fun x31 ex31 => ?_)
    refine z_C (m := 19) rfl rfl (fun x32 ex32 => ?_)
    refine z_ac (n := 288) (m := 3350) rfl (zT S22 (by decide) rfl) (zT S22 (by decide) rfl) (zN S22 (by decide) rfl) (zN S22 (by decide) rfl) (by omega) (fun h33 e34 => ?_)
    have S35 := zSh_row S22 e34
    have F36 := zW_row F23 e34 (by omega)
    have A37 : (∀ s, s < 286 → ez_I h33 57 ((335 * k.toInt).toNat + s) = ez_I h 30 s) := fun s hs => ((zIr_cp e34).2 _ (by omega)).trans (A24 s hs)
    have A38 : (∀ j, (j < (335 * k.toInt).toNat ∨ (335 * k.toInt).toNat + 335 ≤ j) → ez_I h33 57 j = ez_I h 57 j) := fun s hs => ((zIr_cp e34).2 _ (by omega)).trans (A25 s hs)
    have A39 : (∀ s, s < 30 → ez_I h33 57 ((335 * k.toInt).toNat + 286 + s) = ez_I h 37 s) := fun s hs => ((zIr_cp e34).2 _ (by omega)).trans (A26 s hs)
    have A40 : (∀ s, s < 19 → ez_I h33 57 ((335 * k.toInt).toNat + 316 + s) = ez_I h 44 s) := fun s hs => by have q := (zIr_cp e34).1 s (by omega); rw [show x31.toInt.toNat + s = (335 * k.toInt).toNat + 316 + s by omega, show x27.toInt.toNat + s = s by omega, (show ez_I h20 44 = ez_I h 44 from zW_fn F23 44 (by decide) (fun k c => by omega))] at q; exact q
    clear A24
    clear A25
    clear A26
    refine z_rv ?_
    exact K _ F36 A37 A39 A40 A38
set_option maxRecDepth 4000 in
set_option maxHeartbeats 2000000 in
theorem d_rest {E : Nat → Nat × (Nat → Int32)} {d : Nat} {Q : ez_Q} {h : ez_H} {y : Int32} (S : zSh h) (hy : 0 ≤ y.toInt ∧ y.toInt ≤ 18) (K : ∀ x : Int32, x.toInt = (rEf y.toInt.toNat : Nat) → Q (.inl (some (.int x))) h) : pw E d 43 0 [some (.int y)] [] h Q := by
  have gy := z_rng y
  have F := zW_refl (fun _ _ => False) (fun _ => False) (fun _ => False) h
  apply ez_Wp_in
  show ez_gw _ _ _ _ _ _ (cz_43) _ _ _ _ _
  refine gw_skip _ ?_
  refine gw_ld rfl rfl ?_
  refine z_C (m := 16) rfl rfl (fun x1 ex1 => ?_)
  refine z_b2 (fun c2 => ?_) (fun c2 => ?_)
  · have c2 : y.toInt ≠ x1.toInt := c2
    refine gw_skip _ ?_
    refine gw_ld rfl rfl ?_
    refine z_C (m := 17) rfl rfl (fun x3 ex3 => ?_)
    refine z_b2 (fun c4 => ?_) (fun c4 => ?_)
    · have c4 : y.toInt ≠ x3.toInt := c4
      refine gw_skip _ ?_
      refine gw_ld rfl rfl ?_
      refine z_C (m := 18) rfl rfl (fun x5 ex5 => ?_)
      refine z_b2 (fun c6 => ?_) (fun c6 => ?_)
      · have c6 : y.toInt ≠ x5.toInt := c6
        refine gw_skip _ ?_
        refine z_C (m := 0) rfl rfl (fun x7 ex7 => ?_)
        refine z_ri ?_
        have h6 : y.toInt.toNat = 16 → rEf y.toInt.toNat = 2 := fun q => by rw [q]; rfl
        have h7 : y.toInt.toNat = 17 → rEf y.toInt.toNat = 3 := fun q => by rw [q]; rfl
        have h8 : y.toInt.toNat = 18 → rEf y.toInt.toNat = 7 := fun q => by rw [q]; rfl
        have hw : ¬ 16 ≤ y.toInt → rEf y.toInt.toNat = 0 := fun q => if_neg (by omega)
        exact zW_Q F (K _ (by omega))
      · have c6 : ¬ (y.toInt ≠ x5.toInt) := c6
        refine z_C (m := 7) rfl rfl (fun x8 ex8 => ?_)
        refine z_go ?_
        refine gw_skip _ ?_
        refine z_ri ?_
        have h6 : y.toInt.toNat = 16 → rEf y.toInt.toNat = 2 := fun q => by rw [q]; rfl
        have h7 : y.toInt.toNat = 17 → rEf y.toInt.toNat = 3 := fun q => by rw [q]; rfl
        have h8 : y.toInt.toNat = 18 → rEf y.toInt.toNat = 7 := fun q => by rw [q]; rfl
        have hw : ¬ 16 ≤ y.toInt → rEf y.toInt.toNat = 0 := fun q => if_neg (by omega)
        exact zW_Q F (K _ (by omega))
    · have c4 : ¬ (y.toInt ≠ x3.toInt) := c4
      refine z_C (m := 3) rfl rfl (fun x9 ex9 => ?_)
      refine z_go ?_
      refine gw_skip _ ?_
      refine z_ri ?_
      have h6 : y.toInt.toNat = 16 → rEf y.toInt.toNat = 2 := fun q => by rw [q]; rfl
      have h7 : y.toInt.toNat = 17 → rEf y.toInt.toNat = 3 := fun q => by rw [q]; rfl
      have h8 : y.toInt.toNat = 18 → rEf y.toInt.toNat = 7 := fun q => by rw [q]; rfl
      have hw : ¬ 16 ≤ y.toInt → rEf y.toInt.toNat = 0 := fun q => if_neg (by omega)
      exact zW_Q F (K _ (by omega))
  · have c2 : ¬ (y.toInt ≠ x1.toInt) := c2
    refine z_C (m := 2) rfl rfl (fun x10 ex10 => ?_)
    refine z_go ?_
    refine gw_skip _ ?_
    refine z_ri ?_
    have h6 : y.toInt.toNat = 16 → rEf y.toInt.toNat = 2 := fun q => by rw [q]; rfl
    have h7 : y.toInt.toNat = 17 → rEf y.toInt.toNat = 3 := fun q => by rw [q]; rfl
    have h8 : y.toInt.toNat = 18 → rEf y.toInt.toNat = 7 := fun q => by rw [q]; rfl
    have hw : ¬ 16 ≤ y.toInt → rEf y.toInt.toNat = 0 := fun q => if_neg (by omega)
    exact zW_Q F (K _ (by omega))
set_option maxRecDepth 4000 in
set_option maxHeartbeats 2000000 in
theorem d_tr {E : Nat → Nat × (Nat → Int32)} {d : Nat} {Q : ez_Q} {h : ez_H} {a : Int32} {b : Int32} (S : zSh h) (ha : 0 ≤ a.toInt ∧ a.toInt ≤ 18) (hc : 0 ≤ (ez_I h 71 56).toInt ∧ (ez_I h 71 56).toInt < 330) (hC : aR (ez_I h 99) 19 0 1000) (K : ∀ h2, zW (fun q k => q = 71 ∧ k = 56) (fun q => q = 99 ∨ q = 117 ∨ q = 118) (fun _ => False) h h2 → (ez_I h2 71 56).toInt = (ez_I h 71 56).toInt + 1 → (ez_I h2 117 (ez_I h 71 56).toInt.toNat = a ∧ ∀ k, k ≠ (ez_I h 71 56).toInt.toNat → ez_I h2 117 k = ez_I h 117 k) → (ez_I h2 118 (ez_I h 71 56).toInt.toNat = b ∧ ∀ k, k ≠ (ez_I h 71 56).toInt.toNat → ez_I h2 118 k = ez_I h 118 k) → upE (ez_I h 99) (ez_I h2 99) a.toInt.toNat → Q (.inl none) h2) : pw E d 41 0 [some (.ref 71), some (.int a), some (.int b)] [] h Q := by
  have ga := z_rng a
  have gb := z_rng b
  have F := zW_refl (fun q k => q = 71 ∧ k = 56) (fun q => q = 99 ∨ q = 117 ∨ q = 118) (fun _ => False) h
  apply ez_Wp_in
  show ez_gw _ _ _ _ _ _ (cz_41) _ _ _ _ _
  refine gw_skip _ ?_
  have r1 := z_rng (ez_I h 71 56)
  refine gw_ld rfl rfl ?_
  refine z_gR (q := 117) (zT S (by decide) rfl) (zRf S (by decide) (by decide) rfl) (by decide) ?_
  refine gw_ld rfl rfl ?_
  refine z_gI2 (by decide) (zT S (by decide) rfl) (rfl) ?_
  refine gw_ld rfl rfl ?_
  refine z_is (n := 330) (zT S (by decide) rfl) (zN S (by decide) rfl) (by omega) (fun h2 e3 => ?_)
  have S4 := zSh_set S e3
  have F5 := zW_setA F e3 (by omega)
  have f6 : ez_I h2 71 56 = (ez_I h 71 56) := (zI_ne e3 (by omega)).trans (rfl)
  have A7 : ez_I h2 99 = ez_I h 99 := by rw [zI_fn e3 99 (by decide)]
  have A8 : ez_I h2 118 = ez_I h 118 := by rw [zI_fn e3 118 (by decide)]
  have A9 : (ez_I h2 117 (ez_I h 71 56).toInt.toNat = a ∧ ∀ k, k ≠ (ez_I h 71 56).toInt.toNat → ez_I h2 117 k = ez_I h 117 k) := ⟨zI_eq e3, fun k hk => zI_ne e3 (by omega)⟩
  refine gw_ld rfl rfl ?_
  refine z_gR (q := 118) (zT S4 (by decide) rfl) (zRf S4 (by decide) (by decide) rfl) (by decide) ?_
  refine gw_ld rfl rfl ?_
  refine z_gI2 (by decide) (zT S4 (by decide) rfl) (f6) ?_
  refine gw_ld rfl rfl ?_
  refine z_is (n := 330) (zT S4 (by decide) rfl) (zN S4 (by decide) rfl) (by omega) (fun h10 e11 => ?_)
  have S12 := zSh_set S4 e11
  have F13 := zW_setA F5 e11 (by omega)
  have f14 : ez_I h10 71 56 = (ez_I h 71 56) := (zI_ne e11 (by omega)).trans (f6)
  have A15 : ez_I h10 99 = ez_I h 99 := by rw [zI_fn e11 99 (by decide)]; exact A7
  have A16 : (ez_I h10 117 (ez_I h 71 56).toInt.toNat = a ∧ ∀ k, k ≠ (ez_I h 71 56).toInt.toNat → ez_I h10 117 k = ez_I h 117 k) := by rw [zI_fn e11 117 (by decide)]; exact A9
  have A17 : (ez_I h10 118 (ez_I h 71 56).toInt.toNat = b ∧ ∀ k, k ≠ (ez_I h 71 56).toInt.toNat → ez_I h10 118 k = ez_I h 118 k) := ⟨zI_eq e11, fun k hk => (zI_ne e11 (by omega)).trans (congrFun A8 k)⟩
  clear A7
  clear A9
  refine gw_ld rfl rfl ?_
  refine z_gR (q := 99) (zT S12 (by decide) rfl) (zRf S12 (by decide) (by decide) rfl) (by decide) ?_
  refine gw_ld rfl rfl ?_
  refine gw_op rfl ?_
  refine z_iaV (n := 19) (zT S12 (by decide) rfl) (zN S12 (by decide) rfl) (by omega) (congrFun A15 _) ?_
  generalize ex18 : ez_I h 99 a.toInt.toNat = x18
  have rx18 := z_rng x18
  have yx18 := hC a.toInt.toNat (by omega)
  rw [ex18] at yx18
  refine z_C (m := 1) rfl rfl (fun x19 ex19 => ?_)
  refine z_add (by omega) (fun x20 ex20 => ?_)
  refine z_is (n := 19) (zT S12 (by decide) rfl) (zN S12 (by decide) rfl) (by omega) (fun h21 e22 => ?_)
  have S23 := zSh_set S12 e22
  have F24 := zW_setA F13 e22 (by omega)
  have f25 : ez_I h21 71 56 = (ez_I h 71 56) := (zI_ne e22 (by omega)).trans (f14)
  have A26 : (ez_I h21 117 (ez_I h 71 56).toInt.toNat = a ∧ ∀ k, k ≠ (ez_I h 71 56).toInt.toNat → ez_I h21 117 k = ez_I h 117 k) := by rw [zI_fn e22 117 (by decide)]; exact A16
  have A27 : (ez_I h21 118 (ez_I h 71 56).toInt.toNat = b ∧ ∀ k, k ≠ (ez_I h 71 56).toInt.toNat → ez_I h21 118 k = ez_I h 118 k) := by rw [zI_fn e22 118 (by decide)]; exact A17
  have A28 : upE (ez_I h 99) (ez_I h21 99) a.toInt.toNat := ⟨x18, x20, ex18, by omega, zI_eq e22, fun k hk => (zI_ne e22 (by omega)).trans (congrFun A15 k)⟩
  clear A16
  clear A17
  refine gw_ld rfl rfl ?_
  refine gw_op rfl ?_
  refine z_gI2 (by decide) (zT S23 (by decide) rfl) (f25) ?_
  refine z_C (m := 1) rfl rfl (fun x29 ex29 => ?_)
  refine z_add (by omega) (fun x30 ex30 => ?_)
  refine z_pI (zT S23 (by decide) rfl) (fun h31 e32 => ?_)
  have S33 := zSh_set S23 e32
  have F34 := zW_setF F24 e32 (by omega)
  have f35 : ez_I h31 71 56 = x30 := zI_eq e32
  have A36 : (ez_I h31 117 (ez_I h 71 56).toInt.toNat = a ∧ ∀ k, k ≠ (ez_I h 71 56).toInt.toNat → ez_I h31 117 k = ez_I h 117 k) := by rw [zI_fn e32 117 (by decide)]; exact A26
  have A37 : (ez_I h31 118 (ez_I h 71 56).toInt.toNat = b ∧ ∀ k, k ≠ (ez_I h 71 56).toInt.toNat → ez_I h31 118 k = ez_I h 118 k) := by rw [zI_fn e32 118 (by decide)]; exact A27
  have A38 : upE (ez_I h 99) (ez_I h31 99) a.toInt.toNat := by rw [zI_fn e32 99 (by decide)]; exact A28
  clear A26
  clear A27
  clear A28
  refine z_rv ?_
  have t39 := congrArg Int32.toInt (f35)
  exact K _ F34 (by omega) A36 A37 A38
end
section
/-! the model's codes -/
def ctM (g : Nat → Int32) (L : Nat → Nat) (n : Nat) : Prop := (g 0).toInt = 0 ∧ ∀ l, 1 ≤ l → l < 17 → (g l).toInt = (ctN L l n : Nat)
theorem ctM_a {g : Nat → Int32} {L : Nat → Nat} (A : aR g 17 0 0) : ctM g L 0 := ⟨by have := A 0 (by decide); omega, fun l _ h2 => by have := A l h2; show _ = ((0 : Nat) : Int); omega⟩
theorem ctM_y {h h2 : ez_H} {c x n m : Nat} {o y : Int32} {L : Nat → Nat} (A : ctM (ez_I h c) L n) (e : h2 = ez_setI h c x y) (hx : x = L n) (h1 : 1 ≤ L n ∧ L n < 17) (eo : ez_I h c x = o) (hy : y.toInt = o.toInt + 1) (hm : m = n + 1) : ctM (ez_I h2 c) L m := by
  subst hm
  refine ⟨by rw [zI_ne e (by omega)]; exact A.1, fun l a b => ?_⟩
  by_cases q : l = x
  · subst q
    have := A.2 l a b
    rw [eo] at this
    rw [zI_eq e, hy, this, ctN_y hx.symm]
    omega
  · rw [zI_ne e (fun z => q z.2), A.2 l a b, ctN_n (by omega)]
theorem ctM_w {h h2 : ez_H} {c n m x : Nat} {o y : Int32} {L : Nat → Nat} (A : ctM (ez_I h c) L n) (e : h2 = ez_setI h c x y) (hx : x = 0) (h0 : L n = 0) (eo : ez_I h c x = o) (hy : y.toInt = o.toInt) (hm : m = n + 1) : ctM (ez_I h2 c) L m := by
  subst hm; subst hx
  refine ⟨by rw [zI_eq e, hy, ← eo]; exact A.1, fun l a b => ?_⟩
  rw [zI_ne e (by omega), A.2 l a b, ctN_n (by omega)]
theorem ctM_rng {g : Nat → Int32} {L : Nat → Nat} {n l : Nat} (A : ctM g L n) (h : l < 17) : 0 ≤ (g l).toInt ∧ (g l).toInt ≤ n := by
  by_cases c : l = 0
  · subst c; have := A.1; omega
  · have a := A.2 l (by omega) h
    have b := ctN_le L l n
    omega
theorem ncN_b2 {L : Nat → Nat} {N l : Nat} (hN : N ≤ 288) (h : l ≤ 17) : ncN L N l ≤ 80000000 := by
  by_cases e : l = 0
  · subst e; show 0 ≤ 80000000; omega
  · have h1 := ncN_le L N (l - 1)
    rw [show l - 1 + 1 = l by omega] at h1
    have h2 : (2 : Nat) ^ (l - 1 + 2) ≤ 2 ^ 18 := Nat.pow_le_pow_right (by decide) (by omega)
    have h3 : N * 2 ^ (l - 1 + 2) ≤ 288 * 2 ^ 18 := Nat.mul_le_mul hN h2
    omega
/-- a bit from the other end -/
theorem rv_or {v b sh w x : Int32} {r j l : Nat} (hv : v.toInt = ((r * 2 ^ (l - j) : Nat) : Int)) (hr : r < 2 ^ j) (hj : j < l) (hl : l ≤ 15) (hb : b.toInt = 0 ∨ b.toInt = 1) (hs : sh.toInt = ((l - 1 - j : Nat) : Int)) (gw : w = b <<< (sh &&& 31)) (gx : x = v ||| w) : x.toInt = v.toInt + b.toInt * 2 ^ (l - 1 - j) := by
  have p1 : (2 : Int) ^ (l - 1 - j) ≤ 2 ^ 14 := z_pow_le (by omega)
  have p0 := pw0 (l - 1 - j)
  have p2 := mulB (x := b.toInt) (y := 2 ^ (l - 1 - j)) (a := 1) (b := 16384) (c := 16384) ⟨by omega, by omega⟩ ⟨by omega, by omega⟩ (by decide)
  have hw : w.toInt = b.toInt * 2 ^ (l - 1 - j) := n_shl (n := l - 1 - j) hs (by omega) (by omega) (by omega) gw
  have p3 : b.toInt * 2 ^ (l - 1 - j) ≤ 2 ^ (l - 1 - j) := by
    rcases hb with q | q <;> rw [q]
    · rw [Int.zero_mul]; omega
    · rw [Int.one_mul]; exact Int.le_refl _
  have p4 : (2 : Int) ^ (l - 1 - j) < 2 ^ (l - j) := by
    rw [show l - j = (l - 1 - j) + 1 by omega, Int.pow_succ]
    omega
  have p5 : r * 2 ^ (l - j) ≤ 2 ^ 15 := by
    have a : r * 2 ^ (l - j) ≤ 2 ^ j * 2 ^ (l - j) := Nat.mul_le_mul_right _ (by omega)
    rw [← Nat.pow_add, show j + (l - j) = l by omega] at a
    exact Nat.le_trans a (Nat.pow_le_pow_right (by decide) hl)
  exact (n_or (n := l - j) (a := (r : Int)) (by rw [hv, Int.natCast_mul, n_pow]) (by omega) (by omega) (by omega) gx).trans (by rw [hw])
theorem rv_st {w l j m : Nat} {v b x : Int} (hv : v = ((rvN w j * 2 ^ (l - j) : Nat) : Int)) (hb : b = ((w / 2 ^ j % 2 : Nat) : Int)) (hx : x = v + b * 2 ^ (l - 1 - j)) (hj : j < l) (hm : m = j + 1) : x = ((rvN w m * 2 ^ (l - m) : Nat) : Int) := by
  subst hm
  rw [← rvN_up hj, hx, hv, hb, n_pow, Int.natCast_add, Int.natCast_mul, Int.natCast_mul]
end
section
/-! whether a code is whole: the class's way and the model's -/
noncomputable def lfN (L : Nat → Nat) (N : Nat) : Nat → Int
  | 0 => 1
  | l + 1 => 2 * lfN L N l - (ctN L (l + 1) N : Nat)
noncomputable def wsN (L : Nat → Nat) : Nat → Nat
  | 0 => 0
  | n + 1 => wsN L n + if 1 ≤ L n then 2 ^ (15 - L n) else 0
noncomputable def wcN (L : Nat → Nat) (N : Nat) : Nat → Nat
  | 0 => 0
  | l + 1 => wcN L N l + ctN L (l + 1) N * 2 ^ (15 - (l + 1))
theorem lf_le (L : Nat → Nat) (N : Nat) : ∀ l, lfN L N l ≤ ((2 ^ l : Nat) : Int) := by
  intro l
  induction l with
  | zero => exact Int.le_refl 1
  | succ l ih =>
    show 2 * lfN L N l - (ctN L (l + 1) N : Nat) ≤ ((2 ^ (l + 1) : Nat) : Int)
    rw [Nat.pow_succ]
    omega
theorem lf_b {L : Nat → Nat} {N l : Nat} (h : l ≤ 15) : lfN L N l ≤ 32768 := by
  have h1 := lf_le L N l
  have h2 : (2 : Nat) ^ l ≤ 2 ^ 15 := Nat.pow_le_pow_right (by decide) h
  have h3 : (2 : Nat) ^ 15 = 32768 := by decide
  omega
theorem lf_s {L : Nat → Nat} {N l : Nat} (h : 1 ≤ l) : lfN L N l = 2 * lfN L N (l - 1) - (ctN L l N : Nat) := by
  obtain ⟨m, rfl⟩ : ∃ m, l = m + 1 := ⟨l - 1, by omega⟩
  rfl
theorem lf_neg {L : Nat → Nat} {N l : Nat} (h : lfN L N l < 0) : ∀ m, l ≤ m → lfN L N m < 0 := by
  intro m
  induction m with
  | zero => intro hm; rw [show l = 0 by omega] at h; exact h
  | succ m ih =>
    intro hm
    by_cases e : l = m + 1
    · rw [e] at h; exact h
    · have := ih (by omega)
      show 2 * lfN L N m - (ctN L (m + 1) N : Nat) < 0
      omega
theorem lf_wc (L : Nat → Nat) (N : Nat) : ∀ l, l ≤ 15 → lfN L N l * ((2 ^ (15 - l) : Nat) : Int) = 32768 - (wcN L N l : Nat) := by
  intro l
  induction l with
  | zero => intro _; rfl
  | succ l ih =>
    intro hl
    have h1 := ih (by omega)
    rw [show 15 - l = (15 - (l + 1)) + 1 by omega, Nat.pow_succ] at h1
    show (2 * lfN L N l - (ctN L (l + 1) N : Nat)) * ((2 ^ (15 - (l + 1)) : Nat) : Int) = 32768 - ((wcN L N l + ctN L (l + 1) N * 2 ^ (15 - (l + 1)) : Nat) : Int)
    rw [Int.sub_mul, Int.natCast_add, Int.natCast_mul (ctN L (l + 1) N)]
    have h2 : 2 * lfN L N l * ((2 ^ (15 - (l + 1)) : Nat) : Int) = lfN L N l * ((2 ^ (15 - (l + 1)) * 2 : Nat) : Int) := by
      rw [Int.natCast_mul, Int.mul_comm 2, Int.mul_assoc, Int.mul_comm (2 : Int)]
      rfl
    rw [h2, h1]
    omega
theorem wc_up (L : Nat → Nat) (n : Nat) : ∀ l, wcN L (n + 1) l = wcN L n l + if 1 ≤ L n ∧ L n ≤ l then 2 ^ (15 - L n) else 0 := by
  intro l
  induction l with
  | zero => rw [if_neg (by omega)]; rfl
  | succ l ih =>
    show wcN L (n + 1) l + ctN L (l + 1) (n + 1) * 2 ^ (15 - (l + 1)) = wcN L n l + ctN L (l + 1) n * 2 ^ (15 - (l + 1)) + _
    rw [ih]
    by_cases e : L n = l + 1
    · rw [ctN_y e, if_neg (by omega), if_pos (by omega), e, Nat.add_mul]
      omega
    · rw [ctN_n e]
      by_cases q : 1 ≤ L n ∧ L n ≤ l
      · rw [if_pos q, if_pos (by omega)]; omega
      · rw [if_neg q, if_neg (by omega)]; omega
theorem wc_0 (L : Nat → Nat) : ∀ l, wcN L 0 l = 0 := by
  intro l
  induction l with
  | zero => rfl
  | succ l ih =>
    show wcN L 0 l + 0 * 2 ^ (15 - (l + 1)) = 0
    rw [ih, Nat.zero_mul]
theorem wc_ws {L : Nat → Nat} : ∀ n, (∀ k, k < n → L k ≤ 15) → wcN L n 15 = wsN L n := by
  intro n
  induction n with
  | zero => intro _; exact wc_0 L 15
  | succ n ih =>
    intro h
    have h1 := h n (by omega)
    rw [wc_up, ih (fun k hk => h k (by omega))]
    show _ = wsN L n + _
    by_cases q : 1 ≤ L n
    · rw [if_pos q, if_pos ⟨q, h1⟩]
    · rw [if_neg q, if_neg (by omega)]
theorem lf_ws {L : Nat → Nat} {n : Nat} (h : ∀ k, k < n → L k ≤ 15) : lfN L n 15 = 32768 - (wsN L n : Nat) := by
  have h1 := lf_wc L n 15 (by omega)
  rw [wc_ws n h] at h1
  rw [← h1]
  show _ = lfN L n 15 * 1
  rw [Int.mul_one]
theorem lf_ret {L : Nat → Nat} {n l : Nat} {c x : Int} (h : ∀ k, k < n → L k ≤ 15) (hc : c = lfN L n (l - 1)) (hl : l ≤ 16) (h2 : l = 16 ∨ c < 0) (hx : x = 1 ∧ c = 0 ∨ x = 0 ∧ c ≠ 0) : x = 1 ∧ wsN L n = 32768 ∨ x = 0 ∧ wsN L n ≠ 32768 := by
  have h1 := lf_ws h
  rcases h2 with h2 | h2
  · rw [h2] at hc
    have h3 : c = lfN L n 15 := hc
    omega
  · have h3 := lf_neg (L := L) (N := n) (l := l - 1) (by omega) 15 (by omega)
    omega
theorem ws_s {L : Nat → Nat} {n m : Nat} {a b c : Int} (ha : a = (wsN L n : Nat)) (hb : 1 ≤ L n → b = ((2 ^ (15 - L n) : Nat) : Int)) (h0 : L n = 0 → b = 0) (hc : c = a + b) (hm : m = n + 1) : c = (wsN L m : Nat) := by
  subst hm
  show _ = ((wsN L n + (if 1 ≤ L n then 2 ^ (15 - L n) else 0) : Nat) : Int)
  by_cases q : 1 ≤ L n
  · rw [if_pos q]; have := hb q; omega
  · rw [if_neg q]; have := h0 (by omega); omega
theorem ws_le {L : Nat → Nat} : ∀ n, wsN L n ≤ n * 32768 := by
  intro n
  induction n with
  | zero => exact Nat.le_refl 0
  | succ n ih =>
    show wsN L n + (if 1 ≤ L n then 2 ^ (15 - L n) else 0) ≤ (n + 1) * 32768
    have h2 : (2 : Nat) ^ (15 - L n) ≤ 2 ^ 15 := Nat.pow_le_pow_right (by decide) (by omega)
    have h3 : (2 : Nat) ^ 15 = 32768 := by decide
    by_cases q : 1 ≤ L n
    · rw [if_pos q]; omega
    · rw [if_neg q]; exact Nat.le_trans ih (Nat.mul_le_mul_right _ (Nat.le_succ n))
theorem pw_div : ∀ l, l ≤ 15 → (32768 : Int) / 2 ^ l = ((2 ^ (15 - l) : Nat) : Int) := by
  intro l hl
  have : ∀ l : Fin 16, (32768 : Int) / 2 ^ l.val = ((2 ^ (15 - l.val) : Nat) : Int) := by decide
  exact this ⟨l, by omega⟩
/-! PRINTED by wip/pack: whether a code is whole: both -/
set_option maxRecDepth 4000 in
set_option maxHeartbeats 2000000 in
theorem c_whole_L0 {E : Nat → Nat × (Nat → Int32)} {d : Nat} {Q : ez_Q} {h : ez_H} {p : Nat} (S : zSh h) (hp : p = 15 ∨ p = 22 ∨ p = 29 ∨ p = 36 ∨ p = 43) (hL : aR (ez_I h (p + 1)) 288 0 15) (hct : ctC (ez_I h (p + 3)) (nL (ez_I h (p + 1))) 288) (K : ∀ x : Int32, (x.toInt = 1 ∧ wsN (nL (ez_I h (p + 1))) 288 = 32768 ∨ x.toInt = 0 ∧ wsN (nL (ez_I h (p + 1))) 288 ≠ 32768) → Q (.inl (some (.int x))) h) : ∀ N : Nat, (∀ (h2 : ez_H) (c : Int32) (l : Int32) , zW (fun _ _ => False) (fun _ => False) (fun _ => False) h h2 → (1 ≤ l.toInt ∧ l.toInt ≤ 16 ∧ c.toInt = lfN (nL (ez_I h (p + 1))) 288 (l.toInt.toNat - 1) ∧ -288 ≤ c.toInt) → (100 - l.toInt) < (N : Int) → pw E d 83 4 [some (.ref p), some (.int c), some (.int l)] [] h2 Q) := by
  intro N
  induction N with
  | zero => exact fun h2 c l  F hinv  hm => absurd hm (by have w_c := z_rng c; have w_l := z_rng l; omega)
  | succ N ih =>
    refine fun h2 c l  F hinv  hm => ?_
    · skip
      have w_c := z_rng c
      have w_l := z_rng l
      have S2 := zW_sh F S
      have hlb := lf_b (L := (nL (ez_I h (p + 1)))) (N := 288) (l := l.toInt.toNat - 1) (by omega)
      have hls := lf_s (L := (nL (ez_I h (p + 1)))) (N := 288) (l := l.toInt.toNat) (by omega)
      have hcl := ctN_le (nL (ez_I h (p + 1))) l.toInt.toNat 288
      apply ez_Wp_in
      show ez_gw _ _ _ _ _ _ (cz_83) _ _ _ _ _
      refine gw_skip _ ?_
      refine gw_ld rfl rfl ?_
      refine z_C (m := 15) rfl rfl (fun x1 ex1 => ?_)
      refine z_b2 (fun c2 => ?_) (fun c2 => ?_)
      · have c2 : x1.toInt < l.toInt := c2
        refine gw_skip _ ?_
        refine gw_ld rfl rfl ?_
        refine z_b1 (fun c3 => ?_) (fun c3 => ?_)
        · have c3 : c.toInt ≠ 0 := c3
          refine gw_skip _ ?_
          refine z_C (m := 0) rfl rfl (fun x4 ex4 => ?_)
          refine z_rz (by omega) ?_
          exact zW_Q F (K _ (lf_ret (l := l.toInt.toNat) (c := c.toInt) (fun k hk => by have := hL k hk; show (ez_I h (p + 1) k).toInt.toNat ≤ 15; omega) (by omega) (by omega) (by omega) (by omega)))
        · have c3 : ¬ (c.toInt ≠ 0) := c3
          refine z_C (m := 1) rfl rfl (fun x5 ex5 => ?_)
          refine z_go ?_
          refine gw_skip _ ?_
          refine z_rz (by omega) ?_
          exact zW_Q F (K _ (lf_ret (l := l.toInt.toNat) (c := c.toInt) (fun k hk => by have := hL k hk; show (ez_I h (p + 1) k).toInt.toNat ≤ 15; omega) (by omega) (by omega) (by omega) (by omega)))
      · have c2 : ¬ (x1.toInt < l.toInt) := c2
        refine gw_ld rfl rfl ?_
        refine z_b1 (fun c6 => ?_) (fun c6 => ?_)
        · have c6 : c.toInt < 0 := c6
          refine gw_skip _ ?_
          refine gw_ld rfl rfl ?_
          refine z_b1 (fun c7 => ?_) (fun c7 => ?_)
          · have c7 : c.toInt ≠ 0 := c7
            refine gw_skip _ ?_
            refine z_C (m := 0) rfl rfl (fun x8 ex8 => ?_)
            refine z_rz (by omega) ?_
            exact zW_Q F (K _ (lf_ret (l := l.toInt.toNat) (c := c.toInt) (fun k hk => by have := hL k hk; show (ez_I h (p + 1) k).toInt.toNat ≤ 15; omega) (by omega) (by omega) (by omega) (by omega)))
          · have c7 : ¬ (c.toInt ≠ 0) := c7
            exfalso; omega
        · have c6 : ¬ (c.toInt < 0) := c6
          refine z_C (m := 2) rfl rfl (fun x9 ex9 => ?_)
          refine gw_ld rfl rfl ?_
          refine z_mulL (c := 2) ex9 (by omega) (fun x10 ex10 => ?_)
          refine gw_ld rfl rfl ?_
          refine z_gR (q := (p + 3)) ((zCode S2 hp).1) ((zCode S2 hp).2.1.2.2.1) (by omega) ?_
          refine gw_ld rfl rfl ?_
          refine z_iaV (n := 16) ((zCode S2 hp).2.2.1.2.2.1) ((zCode S2 hp).2.2.2.2.2.1) (by omega) (zW_f F (fun c => c) (fun c => c)) ?_
          generalize ex11 : ez_I h (p + 3) l.toInt.toNat = x11
          have rx11 := z_rng x11
          have yx11 := hct.2 l.toInt.toNat (by omega) (by omega)
          rw [ex11] at yx11
          refine z_sub (by omega) (fun x12 ex12 => ?_)
          refine gw_st rfl rfl rfl ?_
          show ez_gw _ _ _ _ _ _ _ _ [some (.ref p), some (.int x12), some (.int l)] _ _ _
          refine z_inc rfl (by rw [show (1 : Int32).toInt = 1 from rfl]; omega) (fun x13 ex13 => ?_)
          rw [show (1 : Int32).toInt = 1 from rfl] at ex13
          show ez_gw _ _ _ _ _ _ _ _ [some (.ref p), some (.int x12), some (.int x13)] _ _ _
          refine z_go ?_
          exact ih h2 x12 x13 F (⟨by omega, by omega, by rw [show x13.toInt.toNat - 1 = l.toInt.toNat by omega]; omega, by omega⟩)  (by omega)
set_option maxRecDepth 4000 in
set_option maxHeartbeats 2000000 in
theorem c_whole {E : Nat → Nat × (Nat → Int32)} {d : Nat} {Q : ez_Q} {h : ez_H} {p : Nat} (S : zSh h) (hp : p = 15 ∨ p = 22 ∨ p = 29 ∨ p = 36 ∨ p = 43) (hL : aR (ez_I h (p + 1)) 288 0 15) (hct : ctC (ez_I h (p + 3)) (nL (ez_I h (p + 1))) 288) (K : ∀ x : Int32, (x.toInt = 1 ∧ wsN (nL (ez_I h (p + 1))) 288 = 32768 ∨ x.toInt = 0 ∧ wsN (nL (ez_I h (p + 1))) 288 ≠ 32768) → Q (.inl (some (.int x))) h) : pw E d 83 0 [some (.ref p), none, none] [] h Q := by
  have F := zW_refl (fun _ _ => False) (fun _ => False) (fun _ => False) h
  apply ez_Wp_in
  show ez_gw _ _ _ _ _ _ (cz_83) _ _ _ _ _
  refine gw_skip _ ?_
  refine z_C (m := 1) rfl rfl (fun x1 ex1 => ?_)
  refine gw_st rfl rfl rfl ?_
  show ez_gw _ _ _ _ _ _ _ _ [some (.ref p), some (.int x1), none] _ _ _
  refine z_C (m := 1) rfl rfl (fun x2 ex2 => ?_)
  refine gw_st rfl rfl rfl ?_
  show ez_gw _ _ _ _ _ _ _ _ [some (.ref p), some (.int x1), some (.int x2)] _ _ _
  exact ez_Wp_at ((c_whole_L0 (p := p) S hp hL hct K (((100 - x2.toInt)).toNat + 1)) h x1 x2 F (⟨by omega, by omega, by rw [show x2.toInt.toNat - 1 = 0 by omega]; show _ = (1 : Int); omega, by omega⟩)  (by omega)) rfl
set_option maxRecDepth 4000 in
set_option maxHeartbeats 2000000 in
theorem c_one {E : Nat → Nat × (Nat → Int32)} {d : Nat} {Q : ez_Q} {h : ez_H} {p : Nat} (S : zSh h) (hp : p = 15 ∨ p = 22 ∨ p = 29 ∨ p = 36 ∨ p = 43) (hL : aR (ez_I h (p + 1)) 288 0 15) (hct : ctC (ez_I h (p + 3)) (nL (ez_I h (p + 1))) 288) (K : ∀ x : Int32, (x.toInt = 1 ∧ ((ez_I h p 4).toInt = 0 ∨ (ez_I h p 4).toInt = 1 ∧ ctN (nL (ez_I h (p + 1))) 1 288 = 1) ∨ x.toInt = 0 ∧ (ez_I h p 4).toInt ≠ 0 ∧ ((ez_I h p 4).toInt ≠ 1 ∨ ctN (nL (ez_I h (p + 1))) 1 288 ≠ 1)) → Q (.inl (some (.int x))) h) : pw E d 84 0 [some (.ref p)] [] h Q := by
  have F := zW_refl (fun _ _ => False) (fun _ => False) (fun _ => False) h
  apply ez_Wp_in
  show ez_gw _ _ _ _ _ _ (cz_84) _ _ _ _ _
  refine gw_skip _ ?_
  refine gw_ld rfl rfl ?_
  have r1 := z_rng (ez_I h p 4)
  refine z_gI2 (by decide) ((zCode S hp).1) (zW_f F (fun c => c) (fun c => c)) ?_
  refine z_b1 (fun c2 => ?_) (fun c2 => ?_)
  · have c2 : ((ez_I h p 4)).toInt = 0 := c2
    refine gw_skip _ ?_
    refine z_C (m := 1) rfl rfl (fun x3 ex3 => ?_)
    refine z_go ?_
    refine gw_skip _ ?_
    refine z_rz (by omega) ?_
    have q1 := hct.2 1 (by decide) (by decide)
    exact zW_Q F (K _ (by omega))
  · have c2 : ¬ (((ez_I h p 4)).toInt = 0) := c2
    refine gw_ld rfl rfl ?_
    refine z_gI2 (by decide) ((zCode S hp).1) (zW_f F (fun c => c) (fun c => c)) ?_
    refine z_C (m := 1) rfl rfl (fun x4 ex4 => ?_)
    refine z_b2 (fun c5 => ?_) (fun c5 => ?_)
    · have c5 : ((ez_I h p 4)).toInt ≠ x4.toInt := c5
      refine gw_skip _ ?_
      refine z_C (m := 0) rfl rfl (fun x6 ex6 => ?_)
      refine z_rz (by omega) ?_
      have q1 := hct.2 1 (by decide) (by decide)
      exact zW_Q F (K _ (by omega))
    · have c5 : ¬ (((ez_I h p 4)).toInt ≠ x4.toInt) := c5
      refine gw_ld rfl rfl ?_
      refine z_gR (q := (p + 3)) ((zCode S hp).1) ((zCode S hp).2.1.2.2.1) (by omega) ?_
      refine z_C (m := 1) rfl rfl (fun x7 ex7 => ?_)
      refine z_iaV (n := 16) ((zCode S hp).2.2.1.2.2.1) ((zCode S hp).2.2.2.2.2.1) (by omega) (zW_f F (fun c => c) (fun c => c)) ?_
      generalize ex8 : ez_I h (p + 3) x7.toInt.toNat = x8
      have rx8 := z_rng x8
      have yx8 := hct.2 x7.toInt.toNat (by omega) (by omega)
      rw [ex8, show x7.toInt.toNat = 1 by omega] at yx8
      refine z_C (m := 1) rfl rfl (fun x9 ex9 => ?_)
      refine z_b2 (fun c10 => ?_) (fun c10 => ?_)
      · have c10 : x8.toInt ≠ x9.toInt := c10
        refine gw_skip _ ?_
        refine z_C (m := 0) rfl rfl (fun x11 ex11 => ?_)
        refine z_rz (by omega) ?_
        have q1 := hct.2 1 (by decide) (by decide)
        exact zW_Q F (K _ (by omega))
      · have c10 : ¬ (x8.toInt ≠ x9.toInt) := c10
        refine z_C (m := 1) rfl rfl (fun x12 ex12 => ?_)
        refine z_go ?_
        refine gw_skip _ ?_
        refine z_rz (by omega) ?_
        have q1 := hct.2 1 (by decide) (by decide)
        exact zW_Q F (K _ (by omega))
set_option maxRecDepth 4000 in
set_option maxHeartbeats 2000000 in
theorem d_whole_L0 {E : Nat → Nat × (Nat → Int32)} {d : Nat} {Q : ez_Q} {h : ez_H} {u : Nat} {n : Int32} (S : zSh h) {nu : Nat} (hu : zA u nu) (hn : 0 ≤ n.toInt ∧ n.toInt ≤ nu ∧ nu ≤ 1000) (hL : aR (ez_I h u) n.toInt.toNat 0 15) (K : ∀ x : Int32, (x.toInt = 1 ∧ wsN (nL (ez_I h u)) n.toInt.toNat = 32768 ∨ x.toInt = 0 ∧ wsN (nL (ez_I h u)) n.toInt.toNat ≠ 32768) → Q (.inl (some (.int x))) h) : ∀ N : Nat, (∀ (h2 : ez_H) (a : Int32) (k : Int32) , zW (fun _ _ => False) (fun _ => False) (fun _ => False) h h2 → (0 ≤ k.toInt ∧ k.toInt ≤ n.toInt ∧ a.toInt = (wsN (nL (ez_I h u)) k.toInt.toNat : Nat)) → (2000 - k.toInt) < (N : Int) → pw E d 56 4 [some (.ref u), some (.int n), some (.int a), some (.int k)] [] h2 Q) := by
  intro N
  induction N with
  | zero => exact fun h2 a k  F hinv  hm => absurd hm (by have w_a := z_rng a; have w_k := z_rng k; have gn := z_rng n; omega)
  | succ N ih =>
    refine fun h2 a k  F hinv  hm => ?_
    · skip
      have w_a := z_rng a
      have w_k := z_rng k
      have gn := z_rng n
      have S2 := zW_sh F S
      have hwl := ws_le (L := (nL (ez_I h u))) k.toInt.toNat
      apply ez_Wp_in
      show ez_gw _ _ _ _ _ _ (cz_56) _ _ _ _ _
      refine gw_skip _ ?_
      refine gw_ld rfl rfl ?_
      refine gw_ld rfl rfl ?_
      refine z_b2 (fun c1 => ?_) (fun c1 => ?_)
      · have c1 : n.toInt ≤ k.toInt := c1
        refine gw_skip _ ?_
        refine gw_ld rfl rfl ?_
        refine z_C (m := 32768) rfl rfl (fun x2 ex2 => ?_)
        refine z_b2 (fun c3 => ?_) (fun c3 => ?_)
        · have c3 : a.toInt ≠ x2.toInt := c3
          refine gw_skip _ ?_
          refine z_C (m := 0) rfl rfl (fun x4 ex4 => ?_)
          refine z_rz (by omega) ?_
          exact zW_Q F (K _ (by rw [show n.toInt.toNat = k.toInt.toNat by omega]; omega))
        · have c3 : ¬ (a.toInt ≠ x2.toInt) := c3
          refine z_C (m := 1) rfl rfl (fun x5 ex5 => ?_)
          refine z_go ?_
          refine gw_skip _ ?_
          refine z_rz (by omega) ?_
          exact zW_Q F (K _ (by rw [show n.toInt.toNat = k.toInt.toNat by omega]; omega))
      · have c1 : ¬ (n.toInt ≤ k.toInt) := c1
        refine gw_ld rfl rfl ?_
        refine gw_ld rfl rfl ?_
        refine gw_ld rfl rfl ?_
        refine z_iaV (n := nu) ((hu _ S2).1) ((hu _ S2).2) (by omega) (zW_f F (fun c => c) (fun c => c)) ?_
        generalize ex6 : ez_I h u k.toInt.toNat = x6
        have rx6 := z_rng x6
        have yx6 := hL k.toInt.toNat (by omega)
        rw [ex6] at yx6
        refine z_b1 (fun c7 => ?_) (fun c7 => ?_)
        · have c7 : x6.toInt ≤ 0 := c7
          refine gw_skip _ ?_
          refine z_C (m := 0) rfl rfl (fun x8 ex8 => ?_)
          refine z_add (by omega) (fun x9 ex9 => ?_)
          refine gw_st rfl rfl rfl ?_
          show ez_gw _ _ _ _ _ _ _ _ [some (.ref u), some (.int n), some (.int x9), some (.int k)] _ _ _
          refine z_inc rfl (by rw [show (1 : Int32).toInt = 1 from rfl]; omega) (fun x10 ex10 => ?_)
          rw [show (1 : Int32).toInt = 1 from rfl] at ex10
          show ez_gw _ _ _ _ _ _ _ _ [some (.ref u), some (.int n), some (.int x9), some (.int x10)] _ _ _
          refine z_go ?_
          exact ih h2 x9 x10 F (⟨by omega, by omega, ws_s (n := k.toInt.toNat) (a := a.toInt) (b := x9.toInt - a.toInt) (by omega) (fun q => by rw [show (nL (ez_I h u)) k.toInt.toNat = x6.toInt.toNat from by show (ez_I h u k.toInt.toNat).toInt.toNat = _; rw [ex6]] at q ⊢; omega) (fun q => by rw [show (nL (ez_I h u)) k.toInt.toNat = x6.toInt.toNat from by show (ez_I h u k.toInt.toNat).toInt.toNat = _; rw [ex6]] at q; omega) (by omega) (by omega)⟩)  (by omega)
        · have c7 : ¬ (x6.toInt ≤ 0) := c7
          refine z_C (m := 32768) rfl rfl (fun x11 ex11 => ?_)
          refine gw_ld rfl rfl ?_
          refine gw_ld rfl rfl ?_
          refine z_iaV (n := nu) ((hu _ S2).1) ((hu _ S2).2) (by omega) ((zW_f F (fun c => c) (fun c => c)).trans ex6) ?_
          refine z_2 rfl (fun x13 ex13 => ?_)
          have rx13 := z_rng x13
          have vx13 := n_shr (n := x6.toInt.toNat) (by omega) (by omega) ex13
          have wx13 := pw_div x6.toInt.toNat (by omega)
          have plx13 := Nat.pow_le_pow_right (n := 2) (by decide) (show 15 - x6.toInt.toNat ≤ 15 by omega)
          have pmx13 : (2 : Nat) ^ 15 = 32768 := by decide
          rw [show x11.toInt = 32768 by omega, wx13] at vx13
          refine z_go ?_
          refine gw_skip _ ?_
          refine z_add (by omega) (fun x14 ex14 => ?_)
          refine gw_st rfl rfl rfl ?_
          show ez_gw _ _ _ _ _ _ _ _ [some (.ref u), some (.int n), some (.int x14), some (.int k)] _ _ _
          refine z_inc rfl (by rw [show (1 : Int32).toInt = 1 from rfl]; omega) (fun x15 ex15 => ?_)
          rw [show (1 : Int32).toInt = 1 from rfl] at ex15
          show ez_gw _ _ _ _ _ _ _ _ [some (.ref u), some (.int n), some (.int x14), some (.int x15)] _ _ _
          refine z_go ?_
          exact ih h2 x14 x15 F (⟨by omega, by omega, ws_s (n := k.toInt.toNat) (a := a.toInt) (b := x14.toInt - a.toInt) (by omega) (fun q => by rw [show (nL (ez_I h u)) k.toInt.toNat = x6.toInt.toNat from by show (ez_I h u k.toInt.toNat).toInt.toNat = _; rw [ex6]] at q ⊢; omega) (fun q => by rw [show (nL (ez_I h u)) k.toInt.toNat = x6.toInt.toNat from by show (ez_I h u k.toInt.toNat).toInt.toNat = _; rw [ex6]] at q; omega) (by omega) (by omega)⟩)  (by omega)
set_option maxRecDepth 4000 in
set_option maxHeartbeats 2000000 in
theorem d_whole {E : Nat → Nat × (Nat → Int32)} {d : Nat} {Q : ez_Q} {h : ez_H} {u : Nat} {n : Int32} (S : zSh h) {nu : Nat} (hu : zA u nu) (hn : 0 ≤ n.toInt ∧ n.toInt ≤ nu ∧ nu ≤ 1000) (hL : aR (ez_I h u) n.toInt.toNat 0 15) (K : ∀ x : Int32, (x.toInt = 1 ∧ wsN (nL (ez_I h u)) n.toInt.toNat = 32768 ∨ x.toInt = 0 ∧ wsN (nL (ez_I h u)) n.toInt.toNat ≠ 32768) → Q (.inl (some (.int x))) h) : pw E d 56 0 [some (.ref u), some (.int n), none, none] [] h Q := by
  have gn := z_rng n
  have F := zW_refl (fun _ _ => False) (fun _ => False) (fun _ => False) h
  apply ez_Wp_in
  show ez_gw _ _ _ _ _ _ (cz_56) _ _ _ _ _
  refine gw_skip _ ?_
  refine z_C (m := 0) rfl rfl (fun x1 ex1 => ?_)
  refine gw_st rfl rfl rfl ?_
  show ez_gw _ _ _ _ _ _ _ _ [some (.ref u), some (.int n), some (.int x1), none] _ _ _
  refine z_C (m := 0) rfl rfl (fun x2 ex2 => ?_)
  refine gw_st rfl rfl rfl ?_
  show ez_gw _ _ _ _ _ _ _ _ [some (.ref u), some (.int n), some (.int x1), some (.int x2)] _ _ _
  exact ez_Wp_at ((d_whole_L0 (u := u) (n := n) S hu hn hL K (((2000 - x2.toInt)).toNat + 1)) h x1 x2 F (⟨by omega, by omega, by rw [show x2.toInt.toNat = 0 by omega]; show _ = ((0 : Nat) : Int); omega⟩)  (by omega)) rfl
end
section
/-! PRINTED by wip/pack: a byte put out; the reading begun -/
set_option maxRecDepth 4000 in
set_option maxHeartbeats 2000000 in
theorem c_putB {E : Nat → Nat × (Nat → Int32)} {d : Nat} {Q : ez_Q} {h : ez_H} {v : Int32} (S : zSh h) (hM : zMem h) (hz : 0 ≤ (ez_I h 50 1).toInt ∧ (ez_I h 50 1).toInt ≤ 6000) (hpo : 0 ≤ (ez_I h 69 6).toInt ∧ (ez_I h 69 6).toInt ≤ 50000) (Ke : 6000 ≤ (ez_I h 50 1).toInt → ∀ h2, zW (fun q k => q = 69 ∧ k = 2 ∨ q = 69 ∧ k = 3 ∨ q = 69 ∧ k = 6) (fun _ => False) (fun _ => False) h h2 → Q (.inr 2) (ez_bump h2)) (K : ∀ h2, zW (fun q k => q = 50 ∧ k = 1) (fun q => q = 51) (fun _ => False) h h2 → (ez_I h 50 1).toInt < 6000 → (ez_I h2 50 1).toInt = (ez_I h 50 1).toInt + 1 → ez_I h2 51 (ez_I h 50 1).toInt.toNat = v → (∀ k, k ≠ (ez_I h 50 1).toInt.toNat → ez_I h2 51 k = ez_I h 51 k) → Q (.inl none) h2) : pw E (d + 1) 140 0 [some (.ref 69), some (.int v)] [] h Q := by
  have gv := z_rng v
  have F := zW_refl (fun q k => q = 69 ∧ k = 2 ∨ q = 69 ∧ k = 3 ∨ q = 69 ∧ k = 6 ∨ q = 50 ∧ k = 1) (fun q => q = 51) (fun _ => False) h
  apply ez_Wp_in
  show ez_gw _ _ _ _ _ _ (cz_140) _ _ _ _ _
  refine gw_skip _ ?_
  have r1 := z_rng (ez_I h 69 2)
  have r2 := z_rng (ez_I h 69 3)
  have r3 := z_rng (ez_I h 69 6)
  have r4 := z_rng (ez_I h 50 1)
  refine gw_ld rfl rfl ?_
  refine z_gR (q := 50) (zT S (by decide) rfl) (zRf S (by decide) (by decide) rfl) (by decide) ?_
  refine z_gI2 (by decide) (zT S (by decide) rfl) (rfl) ?_
  refine z_C (m := 6000) rfl rfl (fun x5 ex5 => ?_)
  refine z_b2 (fun c6 => ?_) (fun c6 => ?_)
  · have c6 : ((ez_I h 50 1)).toInt < x5.toInt := c6
    refine gw_skip _ ?_
    refine gw_ld rfl rfl ?_
    refine z_gR (q := 50) (zT S (by decide) rfl) (zRf S (by decide) (by decide) rfl) (by decide) ?_
    refine gw_ld rfl rfl ?_
    refine z_cl rfl rfl rfl rfl rfl rfl rfl rfl rfl rfl rfl (zT S (by decide) rfl) ?_
    refine c_add (p := 50) (v := v) S (by decide) (by omega) (fun h7 F8 k9 k10 k11 => ?_)
    have FK := F8
    have S12 := zW_sh F8 S
    have F13 := zW_tr F (zW_mono F8 (fun q k hk => by first | omega | exact False.elim hk) (fun q hk => by first | omega | exact False.elim hk) (fun q hk => by first | omega | exact False.elim hk))
    have f14 : ez_I h7 69 2 = (ez_I h 69 2) := (zW_f F8 (by decide) (by decide)).trans (rfl)
    have f15 : ez_I h7 69 3 = (ez_I h 69 3) := (zW_f F8 (by decide) (by decide)).trans (rfl)
    have f16 : ez_I h7 69 6 = (ez_I h 69 6) := (zW_f F8 (by decide) (by decide)).trans (rfl)
    have r17 := z_rng (ez_I h7 50 1)
    refine z_rv ?_
    have t18 := congrArg Int32.toInt (f14)
    have t19 := congrArg Int32.toInt (f15)
    have t20 := congrArg Int32.toInt (f16)
    exact K _ FK (by omega) k9 k10 k11
  · have c6 : ¬ (((ez_I h 50 1)).toInt < x5.toInt) := c6
    refine gw_ld rfl rfl ?_
    refine z_C (m := 9) rfl rfl (fun x21 ex21 => ?_)
    refine z_cl rfl rfl rfl rfl rfl rfl rfl rfl rfl rfl rfl (zT S (by decide) rfl) ?_
    exact c_fail (i := x21) S (zMw F hM) hpo (fun hh FF => Ke (by omega) hh FF) trivial
set_option maxRecDepth 4000 in
set_option maxHeartbeats 2000000 in
theorem c_ubegin {E : Nat → Nat × (Nat → Int32)} {d : Nat} {Q : ez_Q} {h : ez_H}  (S : zSh h)  (K : ∀ h2, zW (fun q k => q = 50 ∧ k = 1 ∨ q = 69 ∧ k = 1 ∨ q = 69 ∧ k = 2 ∨ q = 69 ∧ k = 3 ∨ q = 69 ∧ k = 6) (fun _ => False) (fun _ => False) h h2 → (ez_I h2 50 1).toInt = 0 → (ez_I h2 69 1).toInt = 0 → (ez_I h2 69 2).toInt = 0 → (ez_I h2 69 6).toInt = 0 → Q (.inl none) h2) : pw E d 132 0 [some (.ref 69)] [] h Q := by
  have F := zW_refl (fun q k => q = 50 ∧ k = 1 ∨ q = 69 ∧ k = 1 ∨ q = 69 ∧ k = 2 ∨ q = 69 ∧ k = 3 ∨ q = 69 ∧ k = 6) (fun _ => False) (fun _ => False) h
  apply ez_Wp_in
  show ez_gw _ _ _ _ _ _ (cz_132) _ _ _ _ _
  refine gw_skip _ ?_
  have r1 := z_rng (ez_I h 50 1)
  have r2 := z_rng (ez_I h 69 1)
  have r3 := z_rng (ez_I h 69 2)
  have r4 := z_rng (ez_I h 69 3)
  have r5 := z_rng (ez_I h 69 6)
  refine gw_ld rfl rfl ?_
  refine z_gR (q := 50) (zT S (by decide) rfl) (zRf S (by decide) (by decide) rfl) (by decide) ?_
  refine z_C (m := 0) rfl rfl (fun x6 ex6 => ?_)
  refine z_pI (zT S (by decide) rfl) (fun h7 e8 => ?_)
  have S9 := zSh_set S e8
  have F10 := zW_setF F e8 (by omega)
  have f11 : ez_I h7 50 1 = x6 := zI_eq e8
  have f12 : ez_I h7 69 1 = (ez_I h 69 1) := (zI_ne e8 (by decide)).trans (rfl)
  have f13 : ez_I h7 69 2 = (ez_I h 69 2) := (zI_ne e8 (by decide)).trans (rfl)
  have f14 : ez_I h7 69 3 = (ez_I h 69 3) := (zI_ne e8 (by decide)).trans (rfl)
  have f15 : ez_I h7 69 6 = (ez_I h 69 6) := (zI_ne e8 (by decide)).trans (rfl)
  refine gw_ld rfl rfl ?_
  refine z_C (m := 0) rfl rfl (fun x16 ex16 => ?_)
  refine z_pZ (zT S9 (by decide) rfl) (by omega) (fun h17 e18 => ?_)
  have S19 := zSh_set S9 e18
  have F20 := zW_setF F10 e18 (by omega)
  have f21 : ez_I h17 50 1 = x6 := (zI_ne e18 (by decide)).trans (f11)
  have f22 : ez_I h17 69 1 = x16 := zI_eq e18
  have f23 : ez_I h17 69 2 = (ez_I h 69 2) := (zI_ne e18 (by decide)).trans (f13)
  have f24 : ez_I h17 69 3 = (ez_I h 69 3) := (zI_ne e18 (by decide)).trans (f14)
  have f25 : ez_I h17 69 6 = (ez_I h 69 6) := (zI_ne e18 (by decide)).trans (f15)
  refine gw_ld rfl rfl ?_
  refine z_C (m := 0) rfl rfl (fun x26 ex26 => ?_)
  refine z_pI (zT S19 (by decide) rfl) (fun h27 e28 => ?_)
  have S29 := zSh_set S19 e28
  have F30 := zW_setF F20 e28 (by omega)
  have f31 : ez_I h27 50 1 = x6 := (zI_ne e28 (by decide)).trans (f21)
  have f32 : ez_I h27 69 1 = x16 := (zI_ne e28 (by decide)).trans (f22)
  have f33 : ez_I h27 69 2 = x26 := zI_eq e28
  have f34 : ez_I h27 69 3 = (ez_I h 69 3) := (zI_ne e28 (by decide)).trans (f24)
  have f35 : ez_I h27 69 6 = (ez_I h 69 6) := (zI_ne e28 (by decide)).trans (f25)
  refine gw_ld rfl rfl ?_
  refine z_C (m := -1) rfl rfl (fun x36 ex36 => ?_)
  refine z_pI (zT S29 (by decide) rfl) (fun h37 e38 => ?_)
  have S39 := zSh_set S29 e38
  have F40 := zW_setF F30 e38 (by omega)
  have f41 : ez_I h37 50 1 = x6 := (zI_ne e38 (by decide)).trans (f31)
  have f42 : ez_I h37 69 1 = x16 := (zI_ne e38 (by decide)).trans (f32)
  have f43 : ez_I h37 69 2 = x26 := (zI_ne e38 (by decide)).trans (f33)
  have f44 : ez_I h37 69 3 = x36 := zI_eq e38
  have f45 : ez_I h37 69 6 = (ez_I h 69 6) := (zI_ne e38 (by decide)).trans (f35)
  refine gw_ld rfl rfl ?_
  refine z_C (m := 0) rfl rfl (fun x46 ex46 => ?_)
  refine z_pI (zT S39 (by decide) rfl) (fun h47 e48 => ?_)
  have S49 := zSh_set S39 e48
  have F50 := zW_setF F40 e48 (by omega)
  have f51 : ez_I h47 50 1 = x6 := (zI_ne e48 (by decide)).trans (f41)
  have f52 : ez_I h47 69 1 = x16 := (zI_ne e48 (by decide)).trans (f42)
  have f53 : ez_I h47 69 2 = x26 := (zI_ne e48 (by decide)).trans (f43)
  have f54 : ez_I h47 69 3 = x36 := (zI_ne e48 (by decide)).trans (f44)
  have f55 : ez_I h47 69 6 = x46 := zI_eq e48
  refine z_rv ?_
  have t56 := congrArg Int32.toInt (f51)
  have t57 := congrArg Int32.toInt (f52)
  have t58 := congrArg Int32.toInt (f53)
  have t59 := congrArg Int32.toInt (f54)
  have t60 := congrArg Int32.toInt (f55)
  exact K _ F50 (by omega) (by omega) (by omega) (by omega)
end
section
/-! lengths taken out of a row -/
def tkI (g r : Nat → Int32) (f n : Nat) : Prop := (∀ k, k < n → g k = r (f + k)) ∧ ∀ k, n ≤ k → k < 288 → (g k).toInt = 0
theorem tk_0 {g r : Nat → Int32} {v : Int32} {f : Nat} (A : ∀ k, k < 288 → g k = v) (hv : v.toInt = 0) : tkI g r f 0 := ⟨fun k hk => by omega, fun k _ hk => by rw [A k hk, hv]⟩
theorem tk_s {h h2 : ez_H} {c x n m f : Nat} {y : Int32} {r : Nat → Int32} (A : tkI (ez_I h c) r f n) (e : h2 = ez_setI h c x y) (hx : x = n) (hy : y = r (f + n)) (hm : m = n + 1) : tkI (ez_I h2 c) r f m := by
  subst hm
  subst hx
  refine ⟨fun k hk => ?_, fun k hk hk2 => ?_⟩
  · by_cases q : k = x
    · rw [q, zI_eq e, hy]
    · rw [zI_ne e (by omega)]
      exact A.1 k (by omega)
  · rw [zI_ne e (by omega)]
    exact A.2 k (by omega) hk2
/-! PRINTED by wip/pack: the lengths of a code taken out of the row -/
set_option maxRecDepth 4000 in
set_option maxHeartbeats 2000000 in
theorem c_take_L0 {E : Nat → Nat × (Nat → Int32)} {d : Nat} {Q : ez_Q} {h : ez_H} {p : Nat} {f : Int32} {m : Int32} (S : zSh h) (hp : p = 15 ∨ p = 22 ∨ p = 29 ∨ p = 36 ∨ p = 43) (hf : 0 ≤ f.toInt ∧ 0 ≤ m.toInt ∧ m.toInt ≤ 288 ∧ f.toInt + m.toInt ≤ 316) (K : ∀ h2, zW (fun _ _ => False) (fun q => q = (p + 1)) (fun _ => False) h h2 → tkI (ez_I h2 (p + 1)) (ez_I h 70) f.toInt.toNat m.toInt.toNat → Q (.inl none) h2) : ∀ N : Nat, (∀ (h2 : ez_H) (i : Int32) , zW (fun _ _ => False) (fun q => q = (p + 1)) (fun _ => False) h h2 → (0 ≤ i.toInt ∧ i.toInt ≤ m.toInt) → tkI (ez_I h2 (p + 1)) (ez_I h 70) f.toInt.toNat i.toInt.toNat → (1000 - i.toInt) < (N : Int) → pw E (d + 1) 81 11 [some (.ref p), some (.ref 70), some (.int f), some (.int m), some (.int i)] [] h2 Q) := by
  intro N
  induction N with
  | zero => exact fun h2 i  F hinv A_tk hm => absurd hm (by have w_i := z_rng i; have gf := z_rng f; have gm := z_rng m; omega)
  | succ N ih =>
    refine fun h2 i  F hinv A_tk hm => ?_
    · skip
      have w_i := z_rng i
      have gf := z_rng f
      have gm := z_rng m
      have S2 := zW_sh F S
      apply ez_Wp_in
      show ez_gw _ _ _ _ _ _ (cz_81) _ _ _ _ _
      refine gw_skip _ ?_
      refine gw_ld rfl rfl ?_
      refine gw_ld rfl rfl ?_
      refine z_b2 (fun c1 => ?_) (fun c1 => ?_)
      · have c1 : m.toInt ≤ i.toInt := c1
        refine gw_skip _ ?_
        refine z_rv ?_
        have b1 := A_tk
        rw [show i.toInt.toNat = m.toInt.toNat by omega] at b1
        exact K _ F b1
      · have c1 : ¬ (m.toInt ≤ i.toInt) := c1
        refine gw_ld rfl rfl ?_
        refine gw_ld rfl rfl ?_
        refine z_gR (q := (p + 1)) ((zCode S2 hp).1) ((zCode S2 hp).2.1.1) (by omega) ?_
        refine z_al (n := 288) (.inl ((zCode S2 hp).2.2.1.1)) ((zCode S2 hp).2.2.2.1) (by omega) (fun x2 ex2 => ?_)
        refine z_b2 (fun c3 => ?_) (fun c3 => ?_)
        · have c3 : x2.toInt ≤ i.toInt := c3
          refine gw_skip _ ?_
          refine z_rv ?_
          have b1 := A_tk
          rw [show i.toInt.toNat = m.toInt.toNat by omega] at b1
          exact K _ F b1
        · have c3 : ¬ (x2.toInt ≤ i.toInt) := c3
          refine gw_ld rfl rfl ?_
          refine gw_ld rfl rfl ?_
          refine z_add (by omega) (fun x4 ex4 => ?_)
          refine z_b1 (fun c5 => ?_) (fun c5 => ?_)
          · have c5 : x4.toInt < 0 := c5
            refine gw_skip _ ?_
            refine z_inc rfl (by rw [show (1 : Int32).toInt = 1 from rfl]; omega) (fun x6 ex6 => ?_)
            rw [show (1 : Int32).toInt = 1 from rfl] at ex6
            show ez_gw _ _ _ _ _ _ _ _ [some (.ref p), some (.ref 70), some (.int f), some (.int m), some (.int x6)] _ _ _
            refine z_go ?_
            exact ih h2 x6 F (by omega) ((by exfalso; omega)) (by omega)
          · have c5 : ¬ (x4.toInt < 0) := c5
            refine gw_ld rfl rfl ?_
            refine gw_ld rfl rfl ?_
            refine z_add (by omega) (fun x7 ex7 => ?_)
            refine gw_ld rfl rfl ?_
            refine z_al (n := 316) (.inl (zT S2 (by decide) rfl)) (zN S2 (by decide) rfl) (by omega) (fun x8 ex8 => ?_)
            refine z_b2 (fun c9 => ?_) (fun c9 => ?_)
            · have c9 : x8.toInt ≤ x7.toInt := c9
              refine gw_skip _ ?_
              refine z_inc rfl (by rw [show (1 : Int32).toInt = 1 from rfl]; omega) (fun x10 ex10 => ?_)
              rw [show (1 : Int32).toInt = 1 from rfl] at ex10
              show ez_gw _ _ _ _ _ _ _ _ [some (.ref p), some (.ref 70), some (.int f), some (.int m), some (.int x10)] _ _ _
              refine z_go ?_
              exact ih h2 x10 F (by omega) ((by exfalso; omega)) (by omega)
            · have c9 : ¬ (x8.toInt ≤ x7.toInt) := c9
              refine gw_ld rfl rfl ?_
              refine z_gR (q := (p + 1)) ((zCode S2 hp).1) ((zCode S2 hp).2.1.1) (by omega) ?_
              refine gw_ld rfl rfl ?_
              refine gw_ld rfl rfl ?_
              refine gw_ld rfl rfl ?_
              refine gw_ld rfl rfl ?_
              refine z_add (by omega) (fun x11 ex11 => ?_)
              refine z_iaV (n := 316) (zT S2 (by decide) rfl) (zN S2 (by decide) rfl) (by omega) (zW_f F (by omega) (fun c => c)) ?_
              generalize ex12 : ez_I h 70 x11.toInt.toNat = x12
              have rx12 := z_rng x12
              refine z_is (n := 288) ((zCode S2 hp).2.2.1.1) ((zCode S2 hp).2.2.2.1) (by omega) (fun h13 e14 => ?_)
              have S15 := zSh_set S2 e14
              have F16 := zW_setA F e14 (by omega)
              have A17 : tkI (ez_I h13 (p + 1)) (ez_I h 70) f.toInt.toNat (i.toInt.toNat + 1) := tk_s A_tk e14 (by omega) (by rw [show f.toInt.toNat + i.toInt.toNat = x11.toInt.toNat by omega]; exact ex12.symm) rfl
              refine z_inc rfl (by rw [show (1 : Int32).toInt = 1 from rfl]; omega) (fun x18 ex18 => ?_)
              rw [show (1 : Int32).toInt = 1 from rfl] at ex18
              show ez_gw _ _ _ _ _ _ _ _ [some (.ref p), some (.ref 70), some (.int f), some (.int m), some (.int x18)] _ _ _
              refine z_go ?_
              exact ih h13 x18 F16 (by omega) ((by rw [show x18.toInt.toNat = i.toInt.toNat + 1 by omega]; exact A17)) (by omega)
set_option maxRecDepth 4000 in
set_option maxHeartbeats 2000000 in
theorem c_take {E : Nat → Nat × (Nat → Int32)} {d : Nat} {Q : ez_Q} {h : ez_H} {p : Nat} {f : Int32} {m : Int32} (S : zSh h) (hp : p = 15 ∨ p = 22 ∨ p = 29 ∨ p = 36 ∨ p = 43) (hf : 0 ≤ f.toInt ∧ 0 ≤ m.toInt ∧ m.toInt ≤ 288 ∧ f.toInt + m.toInt ≤ 316) (K : ∀ h2, zW (fun _ _ => False) (fun q => q = (p + 1)) (fun _ => False) h h2 → tkI (ez_I h2 (p + 1)) (ez_I h 70) f.toInt.toNat m.toInt.toNat → Q (.inl none) h2) : pw E (d + 1) 81 0 [some (.ref p), some (.ref 70), some (.int f), some (.int m), none] [] h Q := by
  have gf := z_rng f
  have gm := z_rng m
  have F := zW_refl (fun _ _ => False) (fun q => q = (p + 1)) (fun _ => False) h
  apply ez_Wp_in
  show ez_gw _ _ _ _ _ _ (cz_81) _ _ _ _ _
  refine gw_skip _ ?_
  refine gw_ld rfl rfl ?_
  refine z_gR (q := (p + 1)) ((zCode S hp).1) ((zCode S hp).2.1.1) (by omega) ?_
  refine z_C (m := 0) rfl rfl (fun x1 ex1 => ?_)
  refine z_cl rfl rfl rfl rfl rfl rfl rfl rfl rfl rfl rfl (trivial) ?_
  refine wp_fill ((zCode S hp).2.2.1.1) (by rw [show ez_l h (p + 1) = 288 from (zCode S hp).2.2.2.1]; omega) ?_
  generalize e3 : ez_rowI h (p + 1) (pf_fill (ez_I h (p + 1)) (ez_l h (p + 1)) x1) = h2
  have e3 := e3.symm
  have A4 := zIr_at e3 (show ez_l h (p + 1) = 288 from (zCode S hp).2.2.2.1)
  have S5 := zSh_row S e3
  have F6 := zW_row F e3 (by omega)
  have A7 : tkI (ez_I h2 (p + 1)) (ez_I h 70) f.toInt.toNat 0 := tk_0 A4 (by omega)
  refine z_C (m := 0) rfl rfl (fun x8 ex8 => ?_)
  refine gw_st rfl rfl rfl ?_
  show ez_gw _ _ _ _ _ _ _ _ [some (.ref p), some (.ref 70), some (.int f), some (.int m), some (.int x8)] _ _ _
  exact ez_Wp_at ((c_take_L0 (p := p) (f := f) (m := m) S hp hf K (((1000 - x8.toInt)).toNat + 1)) h2 x8 F6 (by omega) ((by rw [show x8.toInt.toNat = 0 by omega]; exact A7)) (by omega)) rfl
end
