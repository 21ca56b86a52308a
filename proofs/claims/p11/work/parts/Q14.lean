/-! a bit turned -/
def flF (b z : Int32) : Int32 := z ^^^ ((1 : Int32) <<< (b &&& 31))
theorem flF_is {b z o w y : Int32} (ho : o.toInt = 1) (gw : w = o <<< (b &&& 31)) (gy : y = z ^^^ w) : y = flF b z := by
  have eo : o = 1 := z_inj ho
  subst eo; subst gw; subst gy
  rfl
theorem n_mod256 (x : Int32) : x.toInt % 256 = ((ev_u x % 256 : Nat) : Int) := by
  by_cases c : 0 ≤ x.toInt
  · have := z_u c; omega
  · have := z_u' (x := x) (by omega); omega
/-- class and model turn the same bit -/
theorem flF_rel {b c m : Int32} (h : c.toInt = m.toInt % 256) (hb : 0 ≤ b.toInt ∧ b.toInt ≤ 7) : (flF b c).toInt = ((flF b m).toInt8.toInt32).toInt % 256 ∧ 0 ≤ (flF b c).toInt ∧ (flF b c).toInt ≤ 255 := by
  have hw : ev_u ((1 : Int32) <<< (b &&& 31)) = 2 ^ b.toInt.toNat := u_shl (T := b.toInt.toNat) rfl (by omega) (by omega) rfl
  have hp : (2 : Nat) ^ b.toInt.toNat < 2 ^ 8 := Nat.pow_lt_pow_right (by decide) (by omega)
  have hc : c.toInt = ((ev_u m % 256 : Nat) : Int) := by rw [h, n_mod256]
  have hcu := z_u (x := c) (by omega)
  have e1 : ev_u c = ev_u m % 2 ^ 8 := by
    show _ = ev_u m % 256
    omega
  have e2 : ev_u (flF b c) = (ev_u m % 2 ^ 8) ^^^ 2 ^ b.toInt.toNat := by
    unfold flF
    rw [ef_xor_ok, hw, e1]
    rfl
  have e3 : ev_u (flF b m) = ev_u m ^^^ 2 ^ b.toInt.toNat := by
    unfold flF
    rw [ef_xor_ok, hw]
    rfl
  have e4 : ev_u (flF b m) % 2 ^ 8 = ev_u (flF b c) := by
    rw [e2, e3, Nat.xor_mod_two_pow, Nat.mod_eq_of_lt hp]
  have e5 : ev_u (flF b c) < 256 := by
    rw [← e4]
    exact Nat.mod_lt _ (by decide)
  have e6 := z_of_u (x := flF b c) (by omega)
  rw [n_i2b, n_mod256]
  have e7 : ev_u (flF b m) % 256 = ev_u (flF b c) := e4
  omega
theorem n_b2 (x : Int32) : (x.toInt8.toInt32).toInt8.toInt32 = x.toInt8.toInt32 := by
  apply z_inj
  have a := n_i2b_rng x
  rw [Int8.toInt_toInt32, Int32.toInt_toInt8]
  rw [Int.bmod_def]
  split <;> omega
/-! PRINTED by wip/pack: the small calls of both -/
set_option maxRecDepth 4000 in
set_option maxHeartbeats 2000000 in
theorem x_cutF {E : Nat → Nat × (Nat → Int32)} {d : Nat} {Q : ez_Q} {h : ez_H} {n : Int32} (S : zSh h)  (K : ∀ h2 (x : Int32), zW (fun q k => q = 2 ∧ k = 1) (fun _ => False) (fun _ => False) h h2 → ((0 ≤ n.toInt ∧ n.toInt ≤ (ez_I h 2 1).toInt) ∧ x.toInt = 1 ∧ ez_I h2 2 1 = n ∨ ¬ (0 ≤ n.toInt ∧ n.toInt ≤ (ez_I h 2 1).toInt) ∧ x.toInt = 0 ∧ ez_I h2 2 1 = ez_I h 2 1) → Q (.inl (some (.int x))) h2) : pw E d 3 0 [some (.ref 1), some (.int n)] [] h Q := by
  have gn := z_rng n
  have F := zW_refl (fun q k => q = 2 ∧ k = 1) (fun _ => False) (fun _ => False) h
  apply ez_Wp_in
  show ez_gw _ _ _ _ _ _ (cz_3) _ _ _ _ _
  refine gw_skip _ ?_
  have r1 := z_rng (ez_I h 2 1)
  refine gw_ld rfl rfl ?_
  refine z_b1 (fun c2 => ?_) (fun c2 => ?_)
  · have c2 : n.toInt < 0 := c2
    refine gw_skip _ ?_
    refine z_C (m := 0) rfl rfl (fun x3 ex3 => ?_)
    refine z_rz (by omega) ?_
    exact K _ _ F (.inr ⟨by omega, by omega, rfl⟩)
  · have c2 : ¬ (n.toInt < 0) := c2
    refine gw_ld rfl rfl ?_
    refine gw_ld rfl rfl ?_
    refine z_gR (q := 2) (zT S (by decide) rfl) (zRf S (by decide) (by decide) rfl) (by decide) ?_
    refine z_gI2 (by decide) (zT S (by decide) rfl) (rfl) ?_
    refine z_b2 (fun c4 => ?_) (fun c4 => ?_)
    · have c4 : n.toInt ≤ ((ez_I h 2 1)).toInt := c4
      refine gw_skip _ ?_
      refine gw_ld rfl rfl ?_
      refine z_gR (q := 2) (zT S (by decide) rfl) (zRf S (by decide) (by decide) rfl) (by decide) ?_
      refine gw_ld rfl rfl ?_
      refine z_pI (zT S (by decide) rfl) (fun h5 e6 => ?_)
      have S7 := zSh_set S e6
      have F8 := zW_setF F e6 (by omega)
      have f9 : ez_I h5 2 1 = n := zI_eq e6
      refine z_C (m := 1) rfl rfl (fun x10 ex10 => ?_)
      refine z_rz (by omega) ?_
      have t11 := congrArg Int32.toInt (f9)
      exact K _ _ F8 (.inl ⟨by omega, by omega, f9⟩)
    · have c4 : ¬ (n.toInt ≤ ((ez_I h 2 1)).toInt) := c4
      refine z_C (m := 0) rfl rfl (fun x12 ex12 => ?_)
      refine z_rz (by omega) ?_
      exact K _ _ F (.inr ⟨by omega, by omega, rfl⟩)
set_option maxRecDepth 4000 in
set_option maxHeartbeats 2000000 in
theorem x_flipF {E : Nat → Nat × (Nat → Int32)} {d : Nat} {Q : ez_Q} {h : ez_H} {i : Int32} {b : Int32} (S : zSh h) (hz : 0 ≤ (ez_I h 2 1).toInt ∧ (ez_I h 2 1).toInt ≤ 6000) (K : ∀ h2 (x : Int32), zW (fun _ _ => False) (fun q => q = 3) (fun _ => False) h h2 → ((0 ≤ i.toInt ∧ i.toInt < (ez_I h 2 1).toInt ∧ 0 ≤ b.toInt ∧ b.toInt ≤ 7) ∧ x.toInt = 1 ∧ ez_I h2 3 i.toInt.toNat = flF b (ez_I h 3 i.toInt.toNat) ∧ (∀ k, k ≠ i.toInt.toNat → ez_I h2 3 k = ez_I h 3 k) ∨ ¬ (0 ≤ i.toInt ∧ i.toInt < (ez_I h 2 1).toInt ∧ 0 ≤ b.toInt ∧ b.toInt ≤ 7) ∧ x.toInt = 0 ∧ ez_I h2 3 = ez_I h 3) → Q (.inl (some (.int x))) h2) : pw E (d + 1) 4 0 [some (.ref 1), some (.int i), some (.int b)] [] h Q := by
  have gi := z_rng i
  have gb := z_rng b
  have F := zW_refl (fun _ _ => False) (fun q => q = 3) (fun _ => False) h
  apply ez_Wp_in
  show ez_gw _ _ _ _ _ _ (cz_4) _ _ _ _ _
  refine gw_skip _ ?_
  refine gw_ld rfl rfl ?_
  refine z_gR (q := 2) (zT S (by decide) rfl) (zRf S (by decide) (by decide) rfl) (by decide) ?_
  refine gw_ld rfl rfl ?_
  refine z_cl rfl rfl rfl rfl rfl rfl rfl rfl rfl rfl rfl (zT S (by decide) rfl) ?_
  refine c_has (p := 2) (i := i) S (by decide) (fun x1 k2 k3 k4 => ?_)
  have rx1 := z_rng x1
  refine z_b1 (fun c5 => ?_) (fun c5 => ?_)
  · have c5 : x1.toInt = 0 := c5
    refine gw_skip _ ?_
    refine z_C (m := 0) rfl rfl (fun x6 ex6 => ?_)
    refine z_rz (by omega) ?_
    exact K _ _ F (.inr ⟨by omega, by omega, rfl⟩)
  · have c5 : ¬ (x1.toInt = 0) := c5
    refine gw_ld rfl rfl ?_
    refine z_b1 (fun c7 => ?_) (fun c7 => ?_)
    · have c7 : b.toInt < 0 := c7
      refine gw_skip _ ?_
      refine z_C (m := 0) rfl rfl (fun x8 ex8 => ?_)
      refine z_rz (by omega) ?_
      exact K _ _ F (.inr ⟨by omega, by omega, rfl⟩)
    · have c7 : ¬ (b.toInt < 0) := c7
      refine gw_ld rfl rfl ?_
      refine z_C (m := 7) rfl rfl (fun x9 ex9 => ?_)
      refine z_b2 (fun c10 => ?_) (fun c10 => ?_)
      · have c10 : b.toInt ≤ x9.toInt := c10
        refine gw_skip _ ?_
        refine gw_ld rfl rfl ?_
        refine z_gR (q := 2) (zT S (by decide) rfl) (zRf S (by decide) (by decide) rfl) (by decide) ?_
        refine z_gR (q := 3) (zT S (by decide) rfl) (zRf S (by decide) (by decide) rfl) (by decide) ?_
        refine gw_ld rfl rfl ?_
        refine gw_op rfl ?_
        refine z_ia (n := 6100) (zT S (by decide) rfl) (zN S (by decide) rfl) (by omega) ?_
        generalize ex11 : ez_I h 3 i.toInt.toNat = x11
        have rx11 := z_rng x11
        refine z_C (m := 1) rfl rfl (fun x12 ex12 => ?_)
        refine gw_ld rfl rfl ?_
        refine z_2 rfl (fun x13 ex13 => ?_)
        have rx13 := z_rng x13
        refine z_2 rfl (fun x14 ex14 => ?_)
        have rx14 := z_rng x14
        refine z_is (n := 6100) (zT S (by decide) rfl) (zN S (by decide) rfl) (by omega) (fun h15 e16 => ?_)
        have S17 := zSh_set S e16
        have F18 := zW_setA F e16 (by omega)
        have A19 : (ez_I h15 3 i.toInt.toNat = flF b (ez_I h 3 i.toInt.toNat) ∧ ∀ k, k ≠ i.toInt.toNat → ez_I h15 3 k = ez_I h 3 k) := ⟨by rw [zI_eq e16, ex11]; exact flF_is (by omega) ex13 ex14, fun k hk => zI_ne e16 (by omega)⟩
        refine z_C (m := 1) rfl rfl (fun x20 ex20 => ?_)
        refine z_rz (by omega) ?_
        exact K _ _ F18 (.inl ⟨by omega, by omega, A19.1, A19.2⟩)
      · have c10 : ¬ (b.toInt ≤ x9.toInt) := c10
        refine z_C (m := 0) rfl rfl (fun x21 ex21 => ?_)
        refine z_rz (by omega) ?_
        exact K _ _ F (.inr ⟨by omega, by omega, rfl⟩)
set_option maxRecDepth 4000 in
set_option maxHeartbeats 2000000 in
theorem x_outF {E : Nat → Nat × (Nat → Int32)} {d : Nat} {Q : ez_Q} {h : ez_H} {i : Int32} (S : zSh h) (hz : 0 ≤ (ez_I h 4 1).toInt ∧ (ez_I h 4 1).toInt ≤ 6100) (K : ∀ x : Int32, ((0 ≤ i.toInt ∧ i.toInt < (ez_I h 4 1).toInt) → x = ez_I h 5 i.toInt.toNat) → (¬ (0 ≤ i.toInt ∧ i.toInt < (ez_I h 4 1).toInt) → x.toInt = -1) → Q (.inl (some (.int x))) h) : pw E (d + 1) 15 0 [some (.ref 1), some (.int i)] [] h Q := by
  have gi := z_rng i
  have F := zW_refl (fun _ _ => False) (fun _ => False) (fun _ => False) h
  apply ez_Wp_in
  show ez_gw _ _ _ _ _ _ (cz_15) _ _ _ _ _
  refine gw_skip _ ?_
  refine gw_ld rfl rfl ?_
  refine z_gR (q := 4) (zT S (by decide) rfl) (zRf S (by decide) (by decide) rfl) (by decide) ?_
  refine gw_ld rfl rfl ?_
  refine z_cl rfl rfl rfl rfl rfl rfl rfl rfl rfl rfl rfl (zT S (by decide) rfl) ?_
  refine c_has (p := 4) (i := i) S (by decide) (fun x1 k2 k3 k4 => ?_)
  have rx1 := z_rng x1
  refine z_b1 (fun c5 => ?_) (fun c5 => ?_)
  · have c5 : x1.toInt = 0 := c5
    refine gw_skip _ ?_
    refine z_C (m := -1) rfl rfl (fun x6 ex6 => ?_)
    refine z_ri ?_
    exact zW_Q F (K _ (fun q => by exfalso; omega) (fun _ => by omega))
  · have c5 : ¬ (x1.toInt = 0) := c5
    refine gw_ld rfl rfl ?_
    refine z_gR (q := 4) (zT S (by decide) rfl) (zRf S (by decide) (by decide) rfl) (by decide) ?_
    refine z_gR (q := 5) (zT S (by decide) rfl) (zRf S (by decide) (by decide) rfl) (by decide) ?_
    refine gw_ld rfl rfl ?_
    refine z_iaV (n := 6100) (zT S (by decide) rfl) (zN S (by decide) rfl) (by omega) (zW_f F (fun c => c) (fun c => c)) ?_
    generalize ex7 : ez_I h 5 i.toInt.toNat = x7
    have rx7 := z_rng x7
    refine z_go ?_
    refine gw_skip _ ?_
    refine z_ri ?_
    exact zW_Q F (K _ (fun _ => ex7.symm) (fun q => by exfalso; omega))
set_option maxRecDepth 4000 in
set_option maxHeartbeats 2000000 in
theorem x_aboutF {E : Nat → Nat × (Nat → Int32)} {d : Nat} {Q : ez_Q} {h : ez_H} {w : Int32} (S : zSh h)  (K : ∀ x : Int32, (w.toInt = 0 → x = ez_I h 2 1) → (w.toInt = 1 → x = ez_I h 4 1) → (w.toInt ≠ 0 → w.toInt ≠ 1 → x.toInt = -1) → Q (.inl (some (.int x))) h) : pw E d 19 0 [some (.ref 1), some (.int w)] [] h Q := by
  have gw := z_rng w
  have F := zW_refl (fun _ _ => False) (fun _ => False) (fun _ => False) h
  apply ez_Wp_in
  show ez_gw _ _ _ _ _ _ (cz_19) _ _ _ _ _
  refine gw_skip _ ?_
  refine gw_ld rfl rfl ?_
  refine gw_jp rfl rfl rfl rfl rfl rfl rfl ?_
  refine ⟨fun c1 => ?_, fun c1 => ?_⟩
  · have c1 : w.toInt = 0 := congrArg Int32.toInt c1
    refine gw_skip _ ?_
    refine gw_ld rfl rfl ?_
    refine z_gR (q := 2) (zT S (by decide) rfl) (zRf S (by decide) (by decide) rfl) (by decide) ?_
    have r2 := z_rng (ez_I h 2 1)
    refine z_gI2 (by decide) (zT S (by decide) rfl) (zW_f F (fun c => c) (fun c => c)) ?_
    refine z_ri ?_
    exact zW_Q F (K _ (fun q => by first | rfl | (exfalso; omega)) (fun q => by first | rfl | (exfalso; omega)) (fun q r => by first | omega | (exfalso; omega)))
  have c1 : ¬ w.toInt = 0 := fun q => c1 (z_inj q)
  refine ⟨fun c3 => ?_, fun c3 => ?_⟩
  · have c3 : w.toInt = 1 := congrArg Int32.toInt c3
    refine gw_skip _ ?_
    refine gw_ld rfl rfl ?_
    refine z_gR (q := 4) (zT S (by decide) rfl) (zRf S (by decide) (by decide) rfl) (by decide) ?_
    have r4 := z_rng (ez_I h 4 1)
    refine z_gI2 (by decide) (zT S (by decide) rfl) (zW_f F (fun c => c) (fun c => c)) ?_
    refine z_ri ?_
    exact zW_Q F (K _ (fun q => by first | rfl | (exfalso; omega)) (fun q => by first | rfl | (exfalso; omega)) (fun q r => by first | omega | (exfalso; omega)))
  have c3 : ¬ w.toInt = 1 := fun q => c3 (z_inj q)
  refine gw_skip _ ?_
  refine z_C (m := -1) rfl rfl (fun x5 ex5 => ?_)
  refine z_ri ?_
  exact zW_Q F (K _ (fun q => by first | rfl | (exfalso; omega)) (fun q => by first | rfl | (exfalso; omega)) (fun q r => by first | omega | (exfalso; omega)))
set_option maxRecDepth 4000 in
set_option maxHeartbeats 2000000 in
theorem x_partsF {E : Nat → Nat × (Nat → Int32)} {d : Nat} {Q : ez_Q} {h : ez_H}  (S : zSh h)  (K : ∀ x : Int32, x = ez_I h 53 1 → Q (.inl (some (.int x))) h) : pw E d 8 0 [some (.ref 1)] [] h Q := by
  have F := zW_refl (fun _ _ => False) (fun _ => False) (fun _ => False) h
  apply ez_Wp_in
  show ez_gw _ _ _ _ _ _ (cz_8) _ _ _ _ _
  refine gw_skip _ ?_
  refine gw_ld rfl rfl ?_
  refine z_gR (q := 52) (zT S (by decide) rfl) (zRf S (by decide) (by decide) rfl) (by decide) ?_
  refine z_gR (q := 53) (zT S (by decide) rfl) (zRf S (by decide) (by decide) rfl) (by decide) ?_
  have r1 := z_rng (ez_I h 53 1)
  refine z_gI2 (by decide) (zT S (by decide) rfl) (zW_f F (fun c => c) (fun c => c)) ?_
  refine z_ri ?_
  exact zW_Q F (K _ rfl)
set_option maxRecDepth 4000 in
set_option maxHeartbeats 2000000 in
theorem x_blocksF {E : Nat → Nat × (Nat → Int32)} {d : Nat} {Q : ez_Q} {h : ez_H}  (S : zSh h)  (K : ∀ x : Int32, x = ez_I h 55 2 → Q (.inl (some (.int x))) h) : pw E d 10 0 [some (.ref 1)] [] h Q := by
  have F := zW_refl (fun _ _ => False) (fun _ => False) (fun _ => False) h
  apply ez_Wp_in
  show ez_gw _ _ _ _ _ _ (cz_10) _ _ _ _ _
  refine gw_skip _ ?_
  refine gw_ld rfl rfl ?_
  refine z_gR (q := 52) (zT S (by decide) rfl) (zRf S (by decide) (by decide) rfl) (by decide) ?_
  refine z_gR (q := 55) (zT S (by decide) rfl) (zRf S (by decide) (by decide) rfl) (by decide) ?_
  have r1 := z_rng (ez_I h 55 2)
  refine z_gI2 (by decide) (zT S (by decide) rfl) (zW_f F (fun c => c) (fun c => c)) ?_
  refine z_ri ?_
  exact zW_Q F (K _ rfl)
set_option maxRecDepth 4000 in
set_option maxHeartbeats 2000000 in
theorem x_blockF {E : Nat → Nat × (Nat → Int32)} {d : Nat} {Q : ez_Q} {h : ez_H} {k : Int32} {w : Int32} (S : zSh h) (hb : 0 ≤ (ez_I h 55 2).toInt ∧ (ez_I h 55 2).toInt ≤ 10) (K : ∀ x : Int32, ((0 ≤ k.toInt ∧ k.toInt < (ez_I h 55 2).toInt ∧ 0 ≤ w.toInt ∧ w.toInt < 6) → x = ez_I h 56 (6 * k.toInt + w.toInt).toNat) → (¬ (0 ≤ k.toInt ∧ k.toInt < (ez_I h 55 2).toInt ∧ 0 ≤ w.toInt ∧ w.toInt < 6) → x.toInt = -1) → Q (.inl (some (.int x))) h) : pw E (d + 2) 11 0 [some (.ref 1), some (.int k), some (.int w)] [] h Q := by
  have gk := z_rng k
  have gw := z_rng w
  have F := zW_refl (fun _ _ => False) (fun _ => False) (fun _ => False) h
  apply ez_Wp_in
  show ez_gw _ _ _ _ _ _ (cz_11) _ _ _ _ _
  refine gw_skip _ ?_
  refine gw_ld rfl rfl ?_
  refine z_gR (q := 52) (zT S (by decide) rfl) (zRf S (by decide) (by decide) rfl) (by decide) ?_
  refine z_gR (q := 55) (zT S (by decide) rfl) (zRf S (by decide) (by decide) rfl) (by decide) ?_
  refine gw_ld rfl rfl ?_
  refine gw_ld rfl rfl ?_
  refine z_cl rfl rfl rfl rfl rfl rfl rfl rfl rfl rfl rfl (zT S (by decide) rfl) ?_
  refine c_fact (k := k) (w := w) S hb (fun x1 k2 k3 => ?_)
  have rx1 := z_rng x1
  refine z_ri ?_
  exact zW_Q F (K _ k2 k3)
set_option maxRecDepth 4000 in
set_option maxHeartbeats 2000000 in
theorem x_partF {E : Nat → Nat × (Nat → Int32)} {d : Nat} {Q : ez_Q} {h : ez_H} {k : Int32} {w : Int32} (S : zSh h) (hc : 0 ≤ (ez_I h 53 1).toInt ∧ (ez_I h 53 1).toInt ≤ 6000) (K : ∀ x : Int32, ((0 ≤ k.toInt ∧ k.toInt < (ez_I h 53 1).toInt) → w.toInt = 0 → x.toInt = (ez_I h 54 k.toInt.toNat).toInt % 512) → ((0 ≤ k.toInt ∧ k.toInt < (ez_I h 53 1).toInt) → w.toInt = 1 → x.toInt = (ez_I h 54 k.toInt.toNat).toInt / 512) → ((0 ≤ k.toInt ∧ k.toInt < (ez_I h 53 1).toInt) → w.toInt = 2 → x.toInt = k.toInt / 600) → ((¬ (0 ≤ k.toInt ∧ k.toInt < (ez_I h 53 1).toInt) ∨ (w.toInt ≠ 0 ∧ w.toInt ≠ 1 ∧ w.toInt ≠ 2)) → x.toInt = -1) → Q (.inl (some (.int x))) h) : pw E (d + 2) 9 0 [some (.ref 1), some (.int k), some (.int w), none] [] h Q := by
  have gk := z_rng k
  have gw := z_rng w
  have F := zW_refl (fun _ _ => False) (fun _ => False) (fun _ => False) h
  apply ez_Wp_in
  show ez_gw _ _ _ _ _ _ (cz_9) _ _ _ _ _
  refine gw_skip _ ?_
  refine gw_ld rfl rfl ?_
  refine z_gR (q := 52) (zT S (by decide) rfl) (zRf S (by decide) (by decide) rfl) (by decide) ?_
  refine z_gR (q := 53) (zT S (by decide) rfl) (zRf S (by decide) (by decide) rfl) (by decide) ?_
  refine gw_st rfl rfl rfl ?_
  show ez_gw _ _ _ _ _ _ _ _ [some (.ref 1), some (.int k), some (.int w), some (.ref 53)] _ _ _
  refine gw_ld rfl rfl ?_
  refine gw_ld rfl rfl ?_
  refine z_cl rfl rfl rfl rfl rfl rfl rfl rfl rfl rfl rfl (zT S (by decide) rfl) ?_
  refine c_phas S (k := k) (fun x1 k2 k3 k4 => ?_)
  have rx1 := z_rng x1
  refine z_b1 (fun c5 => ?_) (fun c5 => ?_)
  · have c5 : x1.toInt ≠ 0 := c5
    refine gw_skip _ ?_
    refine gw_ld rfl rfl ?_
    refine gw_jp rfl rfl rfl rfl rfl rfl rfl ?_
    refine ⟨fun c6 => ?_, fun c6 => ?_⟩
    · have c6 : w.toInt = 0 := congrArg Int32.toInt c6
      refine gw_skip _ ?_
      refine gw_ld rfl rfl ?_
      refine gw_ld rfl rfl ?_
      refine z_cl rfl rfl rfl rfl rfl rfl rfl rfl rfl rfl rfl (zT S (by decide) rfl) ?_
      refine c_pamount S (k := k) (by omega) (fun x7 k8 => ?_)
      have rx7 := z_rng x7
      refine z_ri ?_
      exact zW_Q F (K _ (fun q r => by first | assumption | (exfalso; omega)) (fun q r => by first | assumption | (exfalso; omega)) (fun q r => by first | omega | (exfalso; omega)) (fun q => by first | omega | (exfalso; omega)))
    have c6 : ¬ w.toInt = 0 := fun q => c6 (z_inj q)
    refine ⟨fun c9 => ?_, fun c9 => ?_⟩
    · have c9 : w.toInt = 1 := congrArg Int32.toInt c9
      refine gw_skip _ ?_
      refine gw_ld rfl rfl ?_
      refine gw_ld rfl rfl ?_
      refine z_cl rfl rfl rfl rfl rfl rfl rfl rfl rfl rfl rfl (zT S (by decide) rfl) ?_
      refine c_pdistance S (k := k) (by omega) (fun x10 k11 => ?_)
      have rx10 := z_rng x10
      refine z_ri ?_
      exact zW_Q F (K _ (fun q r => by first | assumption | (exfalso; omega)) (fun q r => by first | assumption | (exfalso; omega)) (fun q r => by first | omega | (exfalso; omega)) (fun q => by first | omega | (exfalso; omega)))
    have c9 : ¬ w.toInt = 1 := fun q => c9 (z_inj q)
    refine ⟨fun c12 => ?_, fun c12 => ?_⟩
    · have c12 : w.toInt = 2 := congrArg Int32.toInt c12
      refine gw_skip _ ?_
      refine gw_ld rfl rfl ?_
      refine z_C (m := 600) rfl rfl (fun x13 ex13 => ?_)
      refine z_dvP (c := 600) ex13 (by decide) (by omega) (fun x14 ex14 => ?_)
      refine z_ri ?_
      exact zW_Q F (K _ (fun q r => by first | assumption | (exfalso; omega)) (fun q r => by first | assumption | (exfalso; omega)) (fun q r => by first | omega | (exfalso; omega)) (fun q => by first | omega | (exfalso; omega)))
    have c12 : ¬ w.toInt = 2 := fun q => c12 (z_inj q)
    refine gw_skip _ ?_
    refine z_C (m := -1) rfl rfl (fun x15 ex15 => ?_)
    refine z_ri ?_
    exact zW_Q F (K _ (fun q r => by first | assumption | (exfalso; omega)) (fun q r => by first | assumption | (exfalso; omega)) (fun q r => by first | omega | (exfalso; omega)) (fun q => by first | omega | (exfalso; omega)))
  · have c5 : ¬ (x1.toInt ≠ 0) := c5
    refine z_C (m := -1) rfl rfl (fun x16 ex16 => ?_)
    refine z_ri ?_
    exact zW_Q F (K _ (fun q r => by first | assumption | (exfalso; omega)) (fun q r => by first | assumption | (exfalso; omega)) (fun q r => by first | omega | (exfalso; omega)) (fun q => by first | omega | (exfalso; omega)))
set_option maxRecDepth 4000 in
set_option maxHeartbeats 2000000 in
theorem m_cutF {E : Nat → Nat × (Nat → Int32)} {d : Nat} {Q : ez_Q} {h : ez_H} {n : Int32} (S : zSh h)  (K : ∀ h2 (x : Int32), zW (fun q k => q = 71 ∧ k = 0 ∨ q = 71 ∧ k = 6) (fun _ => False) (fun _ => False) h h2 → ((0 ≤ n.toInt ∧ n.toInt ≤ (ez_I h 71 6).toInt) ∧ x.toInt = 1 ∧ ez_I h2 71 6 = n ∨ ¬ (0 ≤ n.toInt ∧ n.toInt ≤ (ez_I h 71 6).toInt) ∧ x.toInt = 0 ∧ ez_I h2 71 6 = ez_I h 71 6) → Q (.inl (some (.int x))) h2) : pw E d 27 0 [some (.ref 71), some (.int n)] [] h Q := by
  have gn := z_rng n
  have F := zW_refl (fun q k => q = 71 ∧ k = 0 ∨ q = 71 ∧ k = 6) (fun _ => False) (fun _ => False) h
  apply ez_Wp_in
  show ez_gw _ _ _ _ _ _ (cz_27) _ _ _ _ _
  refine gw_skip _ ?_
  have r1 := z_rng (ez_I h 71 0)
  have r2 := z_rng (ez_I h 71 6)
  refine gw_ld rfl rfl ?_
  refine z_C (m := 0) rfl rfl (fun x3 ex3 => ?_)
  refine z_pI (zT S (by decide) rfl) (fun h4 e5 => ?_)
  have S6 := zSh_set S e5
  have F7 := zW_setF F e5 (by omega)
  have f8 : ez_I h4 71 0 = x3 := zI_eq e5
  have f9 : ez_I h4 71 6 = (ez_I h 71 6) := (zI_ne e5 (by decide)).trans (rfl)
  refine gw_ld rfl rfl ?_
  refine z_b1 (fun c10 => ?_) (fun c10 => ?_)
  · have c10 : n.toInt < 0 := c10
    refine gw_skip _ ?_
    refine z_C (m := 0) rfl rfl (fun x11 ex11 => ?_)
    refine z_rz (by omega) ?_
    have t12 := congrArg Int32.toInt (f8)
    have t13 := congrArg Int32.toInt (f9)
    exact K _ _ F7 (.inr ⟨by omega, by omega, f9⟩)
  · have c10 : ¬ (n.toInt < 0) := c10
    refine gw_ld rfl rfl ?_
    refine gw_ld rfl rfl ?_
    refine z_gI2 (by decide) (zT S6 (by decide) rfl) (f9) ?_
    refine z_b2 (fun c14 => ?_) (fun c14 => ?_)
    · have c14 : n.toInt ≤ ((ez_I h 71 6)).toInt := c14
      refine gw_skip _ ?_
      refine gw_ld rfl rfl ?_
      refine gw_ld rfl rfl ?_
      refine z_pI (zT S6 (by decide) rfl) (fun h15 e16 => ?_)
      have S17 := zSh_set S6 e16
      have F18 := zW_setF F7 e16 (by omega)
      have f19 : ez_I h15 71 0 = x3 := (zI_ne e16 (by decide)).trans (f8)
      have f20 : ez_I h15 71 6 = n := zI_eq e16
      refine z_C (m := 1) rfl rfl (fun x21 ex21 => ?_)
      refine z_rz (by omega) ?_
      have t22 := congrArg Int32.toInt (f19)
      have t23 := congrArg Int32.toInt (f20)
      exact K _ _ F18 (.inl ⟨by omega, by omega, f20⟩)
    · have c14 : ¬ (n.toInt ≤ ((ez_I h 71 6)).toInt) := c14
      refine z_C (m := 0) rfl rfl (fun x24 ex24 => ?_)
      refine z_rz (by omega) ?_
      have t25 := congrArg Int32.toInt (f8)
      have t26 := congrArg Int32.toInt (f9)
      exact K _ _ F7 (.inr ⟨by omega, by omega, f9⟩)
set_option maxRecDepth 4000 in
set_option maxHeartbeats 2000000 in
theorem m_flipF {E : Nat → Nat × (Nat → Int32)} {d : Nat} {Q : ez_Q} {h : ez_H} {i : Int32} {b : Int32} (S : zSh h) (hz : 0 ≤ (ez_I h 71 6).toInt ∧ (ez_I h 71 6).toInt ≤ 6000) (K : ∀ h2 (x : Int32), zW (fun q k => q = 71 ∧ k = 0) (fun q => q = 72) (fun _ => False) h h2 → ((0 ≤ i.toInt ∧ i.toInt < (ez_I h 71 6).toInt ∧ 0 ≤ b.toInt ∧ b.toInt ≤ 7) ∧ x.toInt = 1 ∧ ez_I h2 72 i.toInt.toNat = (flF b (ez_I h 72 i.toInt.toNat)).toInt8.toInt32 ∧ (∀ k, k ≠ i.toInt.toNat → ez_I h2 72 k = ez_I h 72 k) ∨ ¬ (0 ≤ i.toInt ∧ i.toInt < (ez_I h 71 6).toInt ∧ 0 ≤ b.toInt ∧ b.toInt ≤ 7) ∧ x.toInt = 0 ∧ ez_I h2 72 = ez_I h 72) → Q (.inl (some (.int x))) h2) : pw E d 28 0 [some (.ref 71), some (.int i), some (.int b)] [] h Q := by
  have gi := z_rng i
  have gb := z_rng b
  have F := zW_refl (fun q k => q = 71 ∧ k = 0) (fun q => q = 72) (fun _ => False) h
  apply ez_Wp_in
  show ez_gw _ _ _ _ _ _ (cz_28) _ _ _ _ _
  refine gw_skip _ ?_
  have r1 := z_rng (ez_I h 71 0)
  refine gw_ld rfl rfl ?_
  refine z_C (m := 0) rfl rfl (fun x2 ex2 => ?_)
  refine z_pI (zT S (by decide) rfl) (fun h3 e4 => ?_)
  have S5 := zSh_set S e4
  have F6 := zW_setF F e4 (by omega)
  have f7 : ez_I h3 71 0 = x2 := zI_eq e4
  have A8 : ez_I h3 72 = ez_I h 72 := by rw [zI_fn e4 72 (by decide)]
  refine gw_ld rfl rfl ?_
  refine z_b1 (fun c9 => ?_) (fun c9 => ?_)
  · have c9 : i.toInt < 0 := c9
    refine gw_skip _ ?_
    refine z_C (m := 0) rfl rfl (fun x10 ex10 => ?_)
    refine z_rz (by omega) ?_
    have t11 := congrArg Int32.toInt (f7)
    exact K _ _ F6 (.inr ⟨by omega, by omega, A8⟩)
  · have c9 : ¬ (i.toInt < 0) := c9
    refine gw_ld rfl rfl ?_
    refine gw_ld rfl rfl ?_
    have r12 := z_rng (ez_I h 71 6)
    refine z_gI2 (by decide) (zT S5 (by decide) rfl) (zW_f F6 (by decide) (by decide)) ?_
    refine z_b2 (fun c13 => ?_) (fun c13 => ?_)
    · have c13 : ((ez_I h 71 6)).toInt ≤ i.toInt := c13
      refine gw_skip _ ?_
      refine z_C (m := 0) rfl rfl (fun x14 ex14 => ?_)
      refine z_rz (by omega) ?_
      have t15 := congrArg Int32.toInt (f7)
      exact K _ _ F6 (.inr ⟨by omega, by omega, A8⟩)
    · have c13 : ¬ (((ez_I h 71 6)).toInt ≤ i.toInt) := c13
      refine gw_ld rfl rfl ?_
      refine z_b1 (fun c16 => ?_) (fun c16 => ?_)
      · have c16 : b.toInt < 0 := c16
        refine gw_skip _ ?_
        refine z_C (m := 0) rfl rfl (fun x17 ex17 => ?_)
        refine z_rz (by omega) ?_
        have t18 := congrArg Int32.toInt (f7)
        exact K _ _ F6 (.inr ⟨by omega, by omega, A8⟩)
      · have c16 : ¬ (b.toInt < 0) := c16
        refine gw_ld rfl rfl ?_
        refine z_C (m := 7) rfl rfl (fun x19 ex19 => ?_)
        refine z_b2 (fun c20 => ?_) (fun c20 => ?_)
        · have c20 : b.toInt ≤ x19.toInt := c20
          refine gw_skip _ ?_
          refine gw_ld rfl rfl ?_
          refine z_gR (q := 72) (zT S5 (by decide) rfl) (zRf S5 (by decide) (by decide) rfl) (by decide) ?_
          refine gw_ld rfl rfl ?_
          refine gw_ld rfl rfl ?_
          refine z_gR (q := 72) (zT S5 (by decide) rfl) (zRf S5 (by decide) (by decide) rfl) (by decide) ?_
          refine gw_ld rfl rfl ?_
          refine z_baV (n := 6000) (zT S5 (by decide) rfl) (zN S5 (by decide) rfl) (by omega) (congrFun A8 _) ?_
          generalize ex21 : ez_I h 72 i.toInt.toNat = x21
          have rx21 := z_rng x21
          refine z_C (m := 1) rfl rfl (fun x22 ex22 => ?_)
          refine gw_ld rfl rfl ?_
          refine z_2 rfl (fun x23 ex23 => ?_)
          have rx23 := z_rng x23
          refine z_2 rfl (fun x24 ex24 => ?_)
          have rx24 := z_rng x24
          refine z_1 rfl (fun x25 ex25 => ?_)
          have rx25 := z_rng x25
          refine z_bs (n := 6000) (zT S5 (by decide) rfl) (zN S5 (by decide) rfl) (by omega) (fun h26 e27 => ?_)
          have S29 := zSh_set S5 e27
          have F30 := zW_setA F6 e27 (by omega)
          have f31 : ez_I h26 71 0 = x2 := (zI_ne e27 (by omega)).trans (f7)
          have A32 : (ez_I h26 72 i.toInt.toNat = (flF b (ez_I h 72 i.toInt.toNat)).toInt8.toInt32 ∧ ∀ k, k ≠ i.toInt.toNat → ez_I h26 72 k = ez_I h 72 k) := ⟨by rw [zI_eq e27, ex25, n_b2, ex21, flF_is (by omega) ex23 ex24], fun k hk => (zI_ne e27 (by omega)).trans (congrFun A8 k)⟩
          refine z_C (m := 1) rfl rfl (fun x33 ex33 => ?_)
          refine z_rz (by omega) ?_
          have t34 := congrArg Int32.toInt (f31)
          exact K _ _ F30 (.inl ⟨by omega, by omega, A32.1, A32.2⟩)
        · have c20 : ¬ (b.toInt ≤ x19.toInt) := c20
          refine z_C (m := 0) rfl rfl (fun x35 ex35 => ?_)
          refine z_rz (by omega) ?_
          have t36 := congrArg Int32.toInt (f7)
          exact K _ _ F6 (.inr ⟨by omega, by omega, A8⟩)
set_option maxRecDepth 4000 in
set_option maxHeartbeats 2000000 in
theorem m_aboutF {E : Nat → Nat × (Nat → Int32)} {d : Nat} {Q : ez_Q} {h : ez_H} {w : Int32} (S : zSh h)  (K : ∀ h2 (x : Int32), zW (fun q k => q = 71 ∧ k = 0) (fun _ => False) (fun _ => False) h h2 → (w.toInt = 0 → x = ez_I h 71 6) → (w.toInt = 1 → x = ez_I h 71 7) → (w.toInt ≠ 0 → w.toInt ≠ 1 → x.toInt = -1) → Q (.inl (some (.int x))) h2) : pw E d 66 0 [some (.ref 71), some (.int w)] [] h Q := by
  have gw := z_rng w
  have F := zW_refl (fun q k => q = 71 ∧ k = 0) (fun _ => False) (fun _ => False) h
  apply ez_Wp_in
  show ez_gw _ _ _ _ _ _ (cz_66) _ _ _ _ _
  refine gw_skip _ ?_
  have r1 := z_rng (ez_I h 71 0)
  refine gw_ld rfl rfl ?_
  refine z_C (m := 0) rfl rfl (fun x2 ex2 => ?_)
  refine z_pI (zT S (by decide) rfl) (fun h3 e4 => ?_)
  have S5 := zSh_set S e4
  have F6 := zW_setF F e4 (by omega)
  have f7 : ez_I h3 71 0 = x2 := zI_eq e4
  refine gw_ld rfl rfl ?_
  refine z_b1 (fun c8 => ?_) (fun c8 => ?_)
  · have c8 : w.toInt ≠ 0 := c8
    refine gw_skip _ ?_
    refine gw_ld rfl rfl ?_
    refine z_C (m := 1) rfl rfl (fun x9 ex9 => ?_)
    refine z_b2 (fun c10 => ?_) (fun c10 => ?_)
    · have c10 : w.toInt ≠ x9.toInt := c10
      refine gw_skip _ ?_
      refine z_C (m := -1) rfl rfl (fun x11 ex11 => ?_)
      refine z_ri ?_
      have t12 := congrArg Int32.toInt (f7)
      exact K _ _ F6 (fun q => by first | rfl | (exfalso; omega)) (fun q => by first | rfl | (exfalso; omega)) (fun q r => by first | omega | (exfalso; omega))
    · have c10 : ¬ (w.toInt ≠ x9.toInt) := c10
      refine gw_ld rfl rfl ?_
      have r13 := z_rng (ez_I h 71 7)
      refine z_gI2 (by decide) (zT S5 (by decide) rfl) (zW_f F6 (fun c => c) (by decide)) ?_
      refine z_go ?_
      refine gw_skip _ ?_
      refine z_ri ?_
      have t14 := congrArg Int32.toInt (f7)
      exact K _ _ F6 (fun q => by first | rfl | (exfalso; omega)) (fun q => by first | rfl | (exfalso; omega)) (fun q r => by first | omega | (exfalso; omega))
  · have c8 : ¬ (w.toInt ≠ 0) := c8
    refine gw_ld rfl rfl ?_
    have r15 := z_rng (ez_I h 71 6)
    refine z_gI2 (by decide) (zT S5 (by decide) rfl) (zW_f F6 (fun c => c) (by decide)) ?_
    refine z_go ?_
    refine gw_skip _ ?_
    refine z_ri ?_
    have t16 := congrArg Int32.toInt (f7)
    exact K _ _ F6 (fun q => by first | rfl | (exfalso; omega)) (fun q => by first | rfl | (exfalso; omega)) (fun q r => by first | omega | (exfalso; omega))
set_option maxRecDepth 4000 in
set_option maxHeartbeats 2000000 in
theorem m_outF {E : Nat → Nat × (Nat → Int32)} {d : Nat} {Q : ez_Q} {h : ez_H} {i : Int32} (S : zSh h) (hz : 0 ≤ (ez_I h 71 7).toInt ∧ (ez_I h 71 7).toInt ≤ 6200) (K : ∀ h2 (x : Int32), zW (fun q k => q = 71 ∧ k = 0) (fun _ => False) (fun _ => False) h h2 → ((0 ≤ i.toInt ∧ i.toInt < (ez_I h 71 7).toInt) → x.toInt = (ez_I h 73 i.toInt.toNat).toInt % 256) → (¬ (0 ≤ i.toInt ∧ i.toInt < (ez_I h 71 7).toInt) → x.toInt = -1) → Q (.inl (some (.int x))) h2) : pw E d 62 0 [some (.ref 71), some (.int i)] [] h Q := by
  have gi := z_rng i
  have F := zW_refl (fun q k => q = 71 ∧ k = 0) (fun _ => False) (fun _ => False) h
  apply ez_Wp_in
  show ez_gw _ _ _ _ _ _ (cz_62) _ _ _ _ _
  refine gw_skip _ ?_
  have r1 := z_rng (ez_I h 71 0)
  refine gw_ld rfl rfl ?_
  refine z_C (m := 0) rfl rfl (fun x2 ex2 => ?_)
  refine z_pI (zT S (by decide) rfl) (fun h3 e4 => ?_)
  have S5 := zSh_set S e4
  have F6 := zW_setF F e4 (by omega)
  have f7 : ez_I h3 71 0 = x2 := zI_eq e4
  refine gw_ld rfl rfl ?_
  refine z_b1 (fun c8 => ?_) (fun c8 => ?_)
  · have c8 : i.toInt < 0 := c8
    refine gw_skip _ ?_
    refine z_C (m := -1) rfl rfl (fun x9 ex9 => ?_)
    refine z_ri ?_
    have t10 := congrArg Int32.toInt (f7)
    exact K _ _ F6 (fun q => by exfalso; omega) (fun _ => by omega)
  · have c8 : ¬ (i.toInt < 0) := c8
    refine gw_ld rfl rfl ?_
    refine gw_ld rfl rfl ?_
    have r11 := z_rng (ez_I h 71 7)
    refine z_gI2 (by decide) (zT S5 (by decide) rfl) (zW_f F6 (fun c => c) (by decide)) ?_
    refine z_b2 (fun c12 => ?_) (fun c12 => ?_)
    · have c12 : ((ez_I h 71 7)).toInt ≤ i.toInt := c12
      refine gw_skip _ ?_
      refine z_C (m := -1) rfl rfl (fun x13 ex13 => ?_)
      refine z_ri ?_
      have t14 := congrArg Int32.toInt (f7)
      exact K _ _ F6 (fun q => by exfalso; omega) (fun _ => by omega)
    · have c12 : ¬ (((ez_I h 71 7)).toInt ≤ i.toInt) := c12
      refine gw_ld rfl rfl ?_
      refine z_gR (q := 73) (zT S5 (by decide) rfl) (zRf S5 (by decide) (by decide) rfl) (by decide) ?_
      refine gw_ld rfl rfl ?_
      refine z_baV (n := 6200) (zT S5 (by decide) rfl) (zN S5 (by decide) rfl) (by omega) (zW_f F6 (fun c => c) (by omega)) ?_
      generalize ex15 : ez_I h 73 i.toInt.toNat = x15
      have rx15 := z_rng x15
      refine z_C (m := 255) rfl rfl (fun x16 ex16 => ?_)
      refine z_and (fun x17 ex17 ux17 wx17 => ?_)
      have rx17 := z_rng x17
      replace ux17 := ux17 (by omega)
      clear wx17
      have vx17 := n_mask (k := 8) (by decide) (by omega) ex17
      rw [show (2 : Int) ^ 8 = 256 from rfl] at vx17
      refine z_go ?_
      refine gw_skip _ ?_
      refine z_ri ?_
      have t18 := congrArg Int32.toInt (f7)
      exact K _ _ F6 (fun _ => by rw [ex15]; omega) (fun q => by exfalso; omega)
set_option maxRecDepth 4000 in
set_option maxHeartbeats 2000000 in
theorem m_partsF {E : Nat → Nat × (Nat → Int32)} {d : Nat} {Q : ez_Q} {h : ez_H}  (S : zSh h)  (K : ∀ h2 (x : Int32), zW (fun q k => q = 71 ∧ k = 0) (fun _ => False) (fun _ => False) h h2 → x = ez_I h 71 14 → Q (.inl (some (.int x))) h2) : pw E d 46 0 [some (.ref 71)] [] h Q := by
  have F := zW_refl (fun q k => q = 71 ∧ k = 0) (fun _ => False) (fun _ => False) h
  apply ez_Wp_in
  show ez_gw _ _ _ _ _ _ (cz_46) _ _ _ _ _
  refine gw_skip _ ?_
  have r1 := z_rng (ez_I h 71 0)
  refine gw_ld rfl rfl ?_
  refine z_C (m := 0) rfl rfl (fun x2 ex2 => ?_)
  refine z_pI (zT S (by decide) rfl) (fun h3 e4 => ?_)
  have S5 := zSh_set S e4
  have F6 := zW_setF F e4 (by omega)
  have f7 : ez_I h3 71 0 = x2 := zI_eq e4
  refine gw_ld rfl rfl ?_
  have r8 := z_rng (ez_I h 71 14)
  refine z_gI2 (by decide) (zT S5 (by decide) rfl) (zW_f F6 (fun c => c) (by decide)) ?_
  refine z_ri ?_
  have t9 := congrArg Int32.toInt (f7)
  exact K _ _ F6 rfl
set_option maxRecDepth 4000 in
set_option maxHeartbeats 2000000 in
theorem m_blocksF {E : Nat → Nat × (Nat → Int32)} {d : Nat} {Q : ez_Q} {h : ez_H}  (S : zSh h)  (K : ∀ h2 (x : Int32), zW (fun q k => q = 71 ∧ k = 0) (fun _ => False) (fun _ => False) h h2 → x = ez_I h 71 15 → Q (.inl (some (.int x))) h2) : pw E d 48 0 [some (.ref 71)] [] h Q := by
  have F := zW_refl (fun q k => q = 71 ∧ k = 0) (fun _ => False) (fun _ => False) h
  apply ez_Wp_in
  show ez_gw _ _ _ _ _ _ (cz_48) _ _ _ _ _
  refine gw_skip _ ?_
  have r1 := z_rng (ez_I h 71 0)
  refine gw_ld rfl rfl ?_
  refine z_C (m := 0) rfl rfl (fun x2 ex2 => ?_)
  refine z_pI (zT S (by decide) rfl) (fun h3 e4 => ?_)
  have S5 := zSh_set S e4
  have F6 := zW_setF F e4 (by omega)
  have f7 : ez_I h3 71 0 = x2 := zI_eq e4
  refine gw_ld rfl rfl ?_
  have r8 := z_rng (ez_I h 71 15)
  refine z_gI2 (by decide) (zT S5 (by decide) rfl) (zW_f F6 (fun c => c) (by decide)) ?_
  refine z_ri ?_
  have t9 := congrArg Int32.toInt (f7)
  exact K _ _ F6 rfl
